/-! 92: reckoning, winds, pallets (printed by wip/whole/p92.py) -/
def q_rcC (nk nr d k c : Nat) (I : e_I) : e_I := if I f_mk_kind c = 99 ∧ I f_mk_division c = nI d ∧ q_ct I c = true ∧ q_tk I c (nI k) = true ∧ s_isk (I f_mk_to c) (nI k + I f_mk_shift c) then q_pl nk nr (I f_mk_to c) (nI k + I f_mk_shift c) I else I
def q_rcK (nk nr d k : Nat) (I : e_I) : e_I := if I f_m_isDown (s_kn (nI d) (nI k)) = 0 then I else s_run (q_rcC nk nr d k) 0 nk (if q_ct I d = true then I else q_pl nk nr (nI d) (nI k) I)
def q_rcD (nk nr d : Nat) (I : e_I) : e_I := s_run (q_rcK nk nr d) 0 (s_kcn (nI d)) I
/-- reckons -/
def q_rc (nk nr np : Nat) (I : e_I) : e_I := s_run (q_rcD nk nr) 0 3 (s_fill (q_rel nk I) f_m_counts np 0)
theorem s_eqN.qrcC {nk nr d k : Nat} (c : Nat) (I : e_I) : s_eqN [f_m_counts] I (q_rcC nk nr d k c I) := by
  unfold q_rcC
  split
  · exact s_eqN.qpl
  · exact s_eqN.rfl'
theorem s_eqN.qrcK {nk nr d : Nat} (k : Nat) (I : e_I) : s_eqN [f_m_counts] I (q_rcK nk nr d k I) := by
  unfold q_rcK
  split
  · exact s_eqN.rfl'
  · split
    · exact s_eqN.run s_eqN.qrcC _ _ _
    · exact s_eqN.qpl.trans (s_eqN.run s_eqN.qrcC _ _ _)
theorem s_eqN.qrcD {nk nr : Nat} (d : Nat) (I : e_I) : s_eqN [f_m_counts] I (q_rcD nk nr d I) := s_eqN.run s_eqN.qrcK _ _ _
theorem s_eqN.qrc {nk nr np : Nat} {I : e_I} : s_eqN [f_m_isRelay, f_m_counts] I (q_rc nk nr np I) := ((s_eqN.qrel.mono (by decide)).trans (s_eqN.fill (by decide))).trans ((s_eqN.run s_eqN.qrcD _ _ _).mono (by decide))
/-- what blows -/
def q_bl (I : e_I) (q : Nat) : Bool := decide (I f_m_fault q ≠ 100) && (decide (I f_m_isOpen q ≠ 0) || decide (I f_m_fault q = 99))
def q_rk (I : e_I) (q : Nat) : Nat := (I f_m_rankOf q).toNatClampNeg
def q_us (I : e_I) (d q : Nat) (u : Int32) : Int32 := u + (if q_bl I q = true ∧ I f_mr_division (q_rk I q) = nI d then I f_mr_wind (q_rk I q) else 0)
def q_trf (I : e_I) (x : Int32) (k : Nat) : Bool := decide (I f_mk_kind k = 116) && (decide (I f_mk_division k = x) && q_ct I k)
def q_tr (I : e_I) (nk : Nat) (x : Int32) : Bool := s_ex nk (q_trf I x) && decide (1 < I f_m_tick 0 - I f_m_tick 0 / 4 * 4)
def q_wd (I : e_I) (nk d : Nat) (u : Int32) : Int32 := s_max 0 (100 - (s_max 0 (u - I f_m_supply d) + 1) / 2 - (if q_tr I nk (nI d) = true then 10 else 0))
def q_bw (nk np d : Nat) (I : e_I) : e_I := s_up I f_m_winds d (q_wd I nk d (s_run (q_us I d) 0 np 0))
def q_bws (nk np : Nat) (I : e_I) : e_I := s_run (q_bw nk np) 0 3 I
theorem s_eqN.qbws {nk np : Nat} {I : e_I} : s_eqN [f_m_winds] I (q_bws nk np I) := s_eqN.run (fun _ _ => s_eqN.up (by decide)) _ _ _
/-- a pallet moves -/
def q_mv (q : Nat) (I : e_I) : e_I := if I f_m_isWanted q ≠ 0 ∧ I f_m_isOpen q = 0 ∧ I f_mr_delay (q_rk I q) ≤ I f_m_tick 0 - I f_m_since q ∧ I f_mr_rest (q_rk I q) ≤ I f_m_tick 0 - I f_m_closedSince q then s_up I f_m_isOpen q 1 else if I f_m_isWanted q = 0 ∧ I f_m_isOpen q ≠ 0 ∧ I f_mr_delay (q_rk I q) ≤ I f_m_tick 0 - I f_m_since q then s_up (s_up I f_m_isOpen q 0) f_m_closedSince q (I f_m_tick 0) else I
theorem s_eqN.qmv (q : Nat) (I : e_I) : s_eqN [f_m_isOpen, f_m_closedSince] I (q_mv q I) := by
  unfold q_mv
  split
  · exact s_eqN.up (by decide)
  · split
    · exact (s_eqN.up (by decide)).trans (s_eqN.up (by decide))
    · exact s_eqN.rfl'

set_option maxRecDepth 100000 in
set_option maxHeartbeats 4000000 in
theorem l2_X16_reckons {X : e_XT} {d : Nat} {p : e_Sp} {I : e_I} {J : e_Jt} {c : Nat × Nat} {w : e_Rw1} {Q : e_Rt → e_SS → Prop} {nk nr np : Nat} (hM : q_D p I nk nr np) {dd kk : Nat} {R : e_I} (hd : dd < 3) (hkk : kk < s_kcn (nI dd)) (hk : ∀ o3 o4, s_w X (d + 5) K_X16_reckons 191 [some (.ref (p.1 T_MODEL 0)), some (.int (nI dd)), some (.int (nI kk)), o3, o4] [] (p, R, J, c, w) (fun r S' => e_rcr (none) r = true ∧ Q r S')) : ∀ (n : Nat) (i : Nat) (I1 : e_I) (o4 : Option Value), (h1 : i ≤ nk) → (e : s_eqN [f_m_counts] I I1) → (hr : s_run (q_rcC nk nr dd kk) i (nk - i) I1 = R) → (hn : nk - i < n) → s_w X (d + 5) K_X16_reckons 86 [some (.ref (p.1 T_MODEL 0)), some (.int (nI dd)), some (.int (nI kk)), some (.int (nI i)), o4] [] (p, I1, J, c, w) (fun r S' => e_rcr (none) r = true ∧ Q r S') := by
  intro n
  induction n with
  | zero =>
    intro i I1 o4 h1 e hr hn
    exact absurd hn (Nat.not_lt_zero _)
  | succ n ih =>
    intro i I1 o4 h1 e hr hn
    have hM1 := hM.eqN e (by decide)
    have hp := hM1.1
    have hk40 := hM1.2.1
    have hr10 := hM1.2.2.1
    have hnp := hM1.2.2.2.1
    refine w_op (pc' := 87) dX16_reckons_86 rfl ?_
    refine w_op (pc' := 88) dX16_reckons_87 rfl ?_
    refine t_getG0 (G := g_m_list1) dX16_reckons_88 rfl rfl (by decide) rfl (fun _ => rfl) (hp.1 _ rfl) ?_
    refine t_callV (t := T_LIST) (As := []) dX16_reckons_91 rfl rM_Jx4a65c_size_8abf5 (by decide) rfl rfl (by decide) (by decide) (Nat.le_of_ble_eq_true rfl) rfl (hp.2 _ (by decide)) (c_size (hp.2 _ (by decide)) ?_)
    show s_w _ _ _ 94 _ _ _ _
    rw [hk40.2]
    refine w_icmpge (t := 191) dX16_reckons_94 (by decide) (fun c94 => ?_) (fun c94 => ?_)
    · have hi : nk ≤ i := (nI_leI (by omega) (by omega)).mp c94
      rw [s_run_z hi] at hr; subst hr; exact hk _ _
    · have hi : i < nk := Nat.lt_of_not_le (fun z => c94 ((nI_leI (by omega) (by omega)).mpr z))
      have hK := hM1.2.2.2.2.1 i hi
      refine w_op (pc' := 98) dX16_reckons_97 rfl ?_
      refine t_getG0 (G := g_m_list1) dX16_reckons_98 rfl rfl (by decide) rfl (fun _ => rfl) (hp.1 _ rfl) ?_
      refine w_op (pc' := 102) dX16_reckons_101 rfl ?_
      refine t_callV (t := T_LIST) (As := [_]) dX16_reckons_102 rfl rM_Jx4a65c_get_915e3 (by decide) rfl rfl (by decide) (by decide) (Nat.le_of_ble_eq_true rfl) rfl (hp.2 _ (by decide)) (c_get3 hp hk40.2 (by omega) hi ?_)
      show s_w _ _ _ 105 _ _ _ _
      refine t_chk dX16_reckons_105 rfl rfl (by decide) hK.1 ?_
      refine w_op (pc' := 110) (ll' := [_, _, _, _, _]) dX16_reckons_108 rfl ?_
      refine w_op (pc' := 112) dX16_reckons_110 rfl ?_
      refine t_getI (F := f_mk_kind) dX16_reckons_112 rfl rfl (by decide) rfl ⟨rfl, fun _ => rfl⟩ hK.1 ?_
      refine w_bipush (v := 99) dX16_reckons_115 rfl ?_
      refine w_icmpne (t := 185) dX16_reckons_117 (by decide) (fun c117 => ?_) (fun c117 => ?_)
      · refine w_op (pc' := 188) (ll' := [_, _, _, _, _]) dX16_reckons_185 rfl ?_
        refine w_goto (t := 86) dX16_reckons_188 (by decide) ?_
        rw [show nI i + Int32.ofInt 1 = nI (i + 1) from nI_1 i]
        have ef : q_rcC nk nr dd kk i I1 = I1 := if_neg (fun u => c117 u.1)
        rw [s_run_s hi, ef] at hr
        exact ih (i + 1) _ _ (by omega) (e) hr (by omega)
      · refine w_op (pc' := 122) dX16_reckons_120 rfl ?_
        refine t_getI (F := f_mk_division) dX16_reckons_122 rfl rfl (by decide) rfl ⟨rfl, fun _ => rfl⟩ hK.1 ?_
        refine w_op (pc' := 126) dX16_reckons_125 rfl ?_
        refine w_icmpne (t := 185) dX16_reckons_126 (by decide) (fun c126 => ?_) (fun c126 => ?_)
        · refine w_op (pc' := 188) (ll' := [_, _, _, _, _]) dX16_reckons_185 rfl ?_
          refine w_goto (t := 86) dX16_reckons_188 (by decide) ?_
          rw [show nI i + Int32.ofInt 1 = nI (i + 1) from nI_1 i]
          have ef : q_rcC nk nr dd kk i I1 = I1 := if_neg (fun u => c126 u.2.1)
          rw [s_run_s hi, ef] at hr
          exact ih (i + 1) _ _ (by omega) (e) hr (by omega)
        · refine w_op (pc' := 130) dX16_reckons_129 rfl ?_
          refine w_op (pc' := 132) dX16_reckons_130 rfl ?_
          refine t_callV (t := T_MODEL) (As := [_]) dX16_reckons_132 rfl rM_X16_counts (by decide) rfl rfl (by decide) (by decide) (Nat.le_of_ble_eq_true rfl) rfl (hp.1 _ rfl) (c_X16_counts hp hK ?_)
          show s_w _ _ _ 135 _ _ _ _
          refine w_ifeq (t := 185) dX16_reckons_135 (by decide) (fun c135 => ?_) (fun c135 => ?_)
          · refine w_op (pc' := 188) (ll' := [_, _, _, _, _]) dX16_reckons_185 rfl ?_
            refine w_goto (t := 86) dX16_reckons_188 (by decide) ?_
            rw [show nI i + Int32.ofInt 1 = nI (i + 1) from nI_1 i]
            have ef : q_rcC nk nr dd kk i I1 = I1 := if_neg (fun u => by have u2 := u.2.2.1; rw [bI_0.mp c135] at u2; cases u2)
            rw [s_run_s hi, ef] at hr
            exact ih (i + 1) _ _ (by omega) (e) hr (by omega)
          · refine w_op (pc' := 139) dX16_reckons_138 rfl ?_
            refine w_op (pc' := 141) dX16_reckons_139 rfl ?_
            refine w_op (pc' := 142) dX16_reckons_141 rfl ?_
            refine t_callV (t := T_MODEL) (As := [_, _]) dX16_reckons_142 rfl rM_X16_takes (by decide) rfl rfl (by decide) (by decide) (Nat.le_of_ble_eq_true rfl) rfl (hp.1 _ rfl) (c_X16_takes hp hK (by rw [c126]; exact q_ki hd hkk) ?_)
            show s_w _ _ _ 145 _ _ _ _
            refine w_ifne (t := 151) dX16_reckons_145 (by decide) (fun c145 => ?_) (fun c145 => ?_)
            · refine w_op (pc' := 153) dX16_reckons_151 rfl ?_
              refine t_getI (F := f_mk_to) dX16_reckons_153 rfl rfl (by decide) rfl ⟨rfl, fun _ => rfl⟩ hK.1 ?_
              refine w_op (pc' := 157) dX16_reckons_156 rfl ?_
              refine w_op (pc' := 159) dX16_reckons_157 rfl ?_
              refine t_getI (F := f_mk_shift) dX16_reckons_159 rfl rfl (by decide) rfl ⟨rfl, fun _ => rfl⟩ hK.1 ?_
              refine w_op (pc' := 163) dX16_reckons_162 rfl ?_
              refine t_callS (As := [_, _]) dX16_reckons_163 rfl rM_X16_isKey (by decide) rfl rfl (by decide) (Nat.le_of_ble_eq_true rfl) (c_X16_isKey ?_)
              show s_w _ _ _ 166 _ _ _ _
              refine w_ifeq (t := 185) dX16_reckons_166 (by decide) (fun c166 => ?_) (fun c166 => ?_)
              · refine w_op (pc' := 188) (ll' := [_, _, _, _, _]) dX16_reckons_185 rfl ?_
                refine w_goto (t := 86) dX16_reckons_188 (by decide) ?_
                rw [show nI i + Int32.ofInt 1 = nI (i + 1) from nI_1 i]
                have ef : q_rcC nk nr dd kk i I1 = I1 := if_neg (fun u => of_decide_eq_false (bI_0.mp c166) u.2.2.2.2)
                rw [s_run_s hi, ef] at hr
                exact ih (i + 1) _ _ (by omega) (e) hr (by omega)
              · have hq := of_decide_eq_true (bI_n0.mp c166)
                refine w_op (pc' := 170) dX16_reckons_169 rfl ?_
                refine w_op (pc' := 172) dX16_reckons_170 rfl ?_
                refine t_getI (F := f_mk_to) dX16_reckons_172 rfl rfl (by decide) rfl ⟨rfl, fun _ => rfl⟩ hK.1 ?_
                refine w_op (pc' := 176) dX16_reckons_175 rfl ?_
                refine w_op (pc' := 178) dX16_reckons_176 rfl ?_
                refine t_getI (F := f_mk_shift) dX16_reckons_178 rfl rfl (by decide) rfl ⟨rfl, fun _ => rfl⟩ hK.1 ?_
                refine w_op (pc' := 182) dX16_reckons_181 rfl ?_
                refine t_callV (t := T_MODEL) (As := [_, _]) dX16_reckons_182 rfl rM_X16_plays (by decide) rfl rfl (by decide) (by decide) (Nat.le_of_ble_eq_true rfl) rfl (hp.1 _ rfl) (c_X16_plays hM1 hq ?_)
                show s_w _ _ _ 185 _ _ _ _
                refine w_op (pc' := 188) (ll' := [_, _, _, _, _]) dX16_reckons_185 rfl ?_
                refine w_goto (t := 86) dX16_reckons_188 (by decide) ?_
                rw [show nI i + Int32.ofInt 1 = nI (i + 1) from nI_1 i]
                have ef : q_rcC nk nr dd kk i I1 = _ := if_pos ⟨c117, c126, bI_n0.mp c135, bI_n0.mp c145, hq⟩
                rw [s_run_s hi, ef] at hr
                exact ih (i + 1) _ _ (by omega) (e.trans s_eqN.qpl) hr (by omega)
            · refine w_goto (t := 185) dX16_reckons_148 (by decide) ?_
              refine w_op (pc' := 188) (ll' := [_, _, _, _, _]) dX16_reckons_185 rfl ?_
              refine w_goto (t := 86) dX16_reckons_188 (by decide) ?_
              rw [show nI i + Int32.ofInt 1 = nI (i + 1) from nI_1 i]
              have ef : q_rcC nk nr dd kk i I1 = I1 := if_neg (fun u => by have u2 := u.2.2.2.1; rw [bI_0.mp c145] at u2; cases u2)
              rw [s_run_s hi, ef] at hr
              exact ih (i + 1) _ _ (by omega) (e) hr (by omega)
set_option maxRecDepth 100000 in
set_option maxHeartbeats 4000000 in
theorem l3_X16_reckons {X : e_XT} {d : Nat} {p : e_Sp} {I : e_I} {J : e_Jt} {c : Nat × Nat} {w : e_Rw1} {Q : e_Rt → e_SS → Prop} {nk nr np : Nat} (hM : q_D p I nk nr np) (h3 : 3 ≤ nk) {dd : Nat} {R : e_I} (hd : dd < 3) (hk : ∀ o2 o3 o4, s_w X (d + 5) K_X16_reckons 197 [some (.ref (p.1 T_MODEL 0)), some (.int (nI dd)), o2, o3, o4] [] (p, R, J, c, w) (fun r S' => e_rcr (none) r = true ∧ Q r S')) : ∀ (n : Nat) (i : Nat) (I1 : e_I) (o3 o4 : Option Value), (h1 : i ≤ s_kcn (nI dd)) → (e : s_eqN [f_m_counts] I I1) → (hr : s_run (q_rcK nk nr dd) i (s_kcn (nI dd) - i) I1 = R) → (hn : s_kcn (nI dd) - i < n) → s_w X (d + 5) K_X16_reckons 36 [some (.ref (p.1 T_MODEL 0)), some (.int (nI dd)), some (.int (nI i)), o3, o4] [] (p, I1, J, c, w) (fun r S' => e_rcr (none) r = true ∧ Q r S') := by
  intro n
  induction n with
  | zero =>
    intro i I1 o3 o4 h1 e hr hn
    exact absurd hn (Nat.not_lt_zero _)
  | succ n ih =>
    intro i I1 o3 o4 h1 e hr hn
    have hM1 := hM.eqN e (by decide)
    have hp := hM1.1
    have hk40 := hM1.2.1
    have hr10 := hM1.2.2.1
    have hnp := hM1.2.2.2.1
    have h61 := s_kcn_le (nI dd)
    refine w_op (pc' := 37) dX16_reckons_36 rfl ?_
    refine w_op (pc' := 38) dX16_reckons_37 rfl ?_
    refine t_callS (As := [_]) dX16_reckons_38 rfl rM_X16_keys (by decide) rfl rfl (by decide) (Nat.le_of_ble_eq_true rfl) (c_X16_keys ?_)
    show s_w _ _ _ 41 _ _ _ _
    refine w_icmpge (t := 197) dX16_reckons_41 (by decide) (fun c41 => ?_) (fun c41 => ?_)
    · have hi : s_kcn (nI dd) ≤ i := (nI_leI (by omega) (by omega)).mp c41
      rw [s_run_z hi] at hr; subst hr; exact hk _ _ _
    · have hi : i < s_kcn (nI dd) := Nat.lt_of_not_le (fun z => c41 ((nI_leI (by omega) (by omega)).mpr z))
      have hq := q_ki hd hi
      have hK := hM1.2.2.2.2.1 dd (by omega)
      refine w_op (pc' := 45) dX16_reckons_44 rfl ?_
      refine t_getG0 (G := g_m_isDown) dX16_reckons_45 rfl rfl (by decide) rfl (fun _ => rfl) (hp.1 _ rfl) ?_
      refine w_op (pc' := 49) dX16_reckons_48 rfl ?_
      refine w_op (pc' := 50) dX16_reckons_49 rfl ?_
      refine t_callS (As := [_, _]) dX16_reckons_50 rfl rM_X16_spot (by decide) rfl rfl (by decide) (Nat.le_of_ble_eq_true rfl) (c_X16_spot hq ?_)
      show s_w _ _ _ 53 _ _ _ _
      refine t_bald0 (F := f_m_isDown) dX16_reckons_53 rfl (by decide) rfl (hp.1 _ rfl) (show s_ix _ _ 183 from s_ix.nI hq.lt (by decide)) hq.lt ?_
      refine w_ifne (t := 60) dX16_reckons_54 (by decide) (fun c54 => ?_) (fun c54 => ?_)
      · refine w_op (pc' := 61) dX16_reckons_60 rfl ?_
        refine w_op (pc' := 62) dX16_reckons_61 rfl ?_
        refine t_getG0 (G := g_m_list1) dX16_reckons_62 rfl rfl (by decide) rfl (fun _ => rfl) (hp.1 _ rfl) ?_
        refine w_op (pc' := 66) dX16_reckons_65 rfl ?_
        refine t_callV (t := T_LIST) (As := [_]) dX16_reckons_66 rfl rM_Jx4a65c_get_915e3 (by decide) rfl rfl (by decide) (by decide) (Nat.le_of_ble_eq_true rfl) rfl (hp.2 _ (by decide)) (c_get3 hp hk40.2 (by omega) (show dd < nk by omega) ?_)
        show s_w _ _ _ 69 _ _ _ _
        refine t_chk dX16_reckons_69 rfl rfl (by decide) hK.1 ?_
        refine t_callV (t := T_MODEL) (As := [_]) dX16_reckons_72 rfl rM_X16_counts (by decide) rfl rfl (by decide) (by decide) (Nat.le_of_ble_eq_true rfl) rfl (hp.1 _ rfl) (c_X16_counts hp hK ?_)
        show s_w _ _ _ 75 _ _ _ _
        refine w_ifne (t := 84) dX16_reckons_75 (by decide) (fun c75 => ?_) (fun c75 => ?_)
        · refine w_iconst (v := 0) dX16_reckons_84 rfl ?_
          refine w_op (pc' := 86) (ll' := [_, _, _, _, _]) dX16_reckons_85 rfl ?_
          have ef : q_rcK nk nr dd i I1 = _ := if_neg c54
          rw [if_pos (bI_n0.mp c75)] at ef
          refine l2_X16_reckons (hM1) hd hi (fun o3 o4 => ?_) (nk + 1) 0 _ _ (Nat.zero_le _) s_eqN.rfl' rfl (by omega)
          refine w_op (pc' := 194) (ll' := [_, _, _, _, _]) dX16_reckons_191 rfl ?_
          refine w_goto (t := 36) dX16_reckons_194 (by decide) ?_
          rw [show nI i + Int32.ofInt 1 = nI (i + 1) from nI_1 i]
          rw [s_run_s hi, ef] at hr
          exact ih (i + 1) _ _ _ (by omega) (e.trans (s_eqN.run s_eqN.qrcC _ _ _)) hr (by omega)
        · refine w_op (pc' := 79) dX16_reckons_78 rfl ?_
          refine w_op (pc' := 80) dX16_reckons_79 rfl ?_
          refine w_op (pc' := 81) dX16_reckons_80 rfl ?_
          refine t_callV (t := T_MODEL) (As := [_, _]) dX16_reckons_81 rfl rM_X16_plays (by decide) rfl rfl (by decide) (by decide) (Nat.le_of_ble_eq_true rfl) rfl (hp.1 _ rfl) (c_X16_plays hM1 hq ?_)
          show s_w _ _ _ 84 _ _ _ _
          refine w_iconst (v := 0) dX16_reckons_84 rfl ?_
          refine w_op (pc' := 86) (ll' := [_, _, _, _, _]) dX16_reckons_85 rfl ?_
          have ef : q_rcK nk nr dd i I1 = _ := if_neg c54
          rw [if_neg (by rw [bI_0.mp c75]; decide)] at ef
          refine l2_X16_reckons (hM1.eqN s_eqN.qpl (by decide)) hd hi (fun o3 o4 => ?_) (nk + 1) 0 _ _ (Nat.zero_le _) s_eqN.rfl' rfl (by omega)
          refine w_op (pc' := 194) (ll' := [_, _, _, _, _]) dX16_reckons_191 rfl ?_
          refine w_goto (t := 36) dX16_reckons_194 (by decide) ?_
          rw [show nI i + Int32.ofInt 1 = nI (i + 1) from nI_1 i]
          rw [s_run_s hi, ef] at hr
          exact ih (i + 1) _ _ _ (by omega) (e.trans (s_eqN.qpl.trans (s_eqN.run s_eqN.qrcC _ _ _))) hr (by omega)
      · refine w_goto (t := 191) dX16_reckons_57 (by decide) ?_
        refine w_op (pc' := 194) (ll' := [_, _, _, _, _]) dX16_reckons_191 rfl ?_
        refine w_goto (t := 36) dX16_reckons_194 (by decide) ?_
        rw [show nI i + Int32.ofInt 1 = nI (i + 1) from nI_1 i]
        have ef : q_rcK nk nr dd i I1 = I1 := if_pos c54
        rw [s_run_s hi, ef] at hr
        exact ih (i + 1) _ _ _ (by omega) e hr (by omega)
set_option maxRecDepth 100000 in
set_option maxHeartbeats 4000000 in
theorem l4_X16_reckons {X : e_XT} {d : Nat} {p : e_Sp} {I : e_I} {J : e_Jt} {c : Nat × Nat} {w : e_Rw1} {Q : e_Rt → e_SS → Prop} {nk nr np : Nat} (hM : q_D p I nk nr np) (h3 : 3 ≤ nk) {R : e_I} (k : Q (.inl none) (p, R, J, c, w)) : ∀ (n : Nat) (i : Nat) (I1 : e_I) (o2 o3 o4 : Option Value), (h1 : i ≤ 3) → (e : s_eqN [f_m_counts] I I1) → (hr : s_run (q_rcD nk nr) i (3 - i) I1 = R) → (hn : 3 - i < n) → s_w X (d + 5) K_X16_reckons 29 [some (.ref (p.1 T_MODEL 0)), some (.int (nI i)), o2, o3, o4] [] (p, I1, J, c, w) (fun r S' => e_rcr (none) r = true ∧ Q r S') := by
  intro n
  induction n with
  | zero =>
    intro i I1 o2 o3 o4 h1 e hr hn
    exact absurd hn (Nat.not_lt_zero _)
  | succ n ih =>
    intro i I1 o2 o3 o4 h1 e hr hn
    have hM1 := hM.eqN e (by decide)
    have hp := hM1.1
    have hk40 := hM1.2.1
    have hr10 := hM1.2.2.1
    have hnp := hM1.2.2.2.1
    refine w_op (pc' := 30) dX16_reckons_29 rfl ?_
    refine w_iconst (v := 3) dX16_reckons_30 rfl ?_
    refine w_icmpge (t := 203) dX16_reckons_31 (by decide) (fun c31 => ?_) (fun c31 => ?_)
    · have hi : 3 ≤ i := (nI_leI (a := 3) (by omega) (by omega)).mp c31
      exact w_return dX16_reckons_203 ⟨rfl, by rw [s_run_z hi] at hr; subst hr; exact k⟩
    · have hi : i < 3 := Nat.lt_of_not_le (fun z => c31 ((nI_leI (a := 3) (by omega) (by omega)).mpr z))
      refine w_iconst (v := 0) dX16_reckons_34 rfl ?_
      refine w_op (pc' := 36) (ll' := [_, _, _, _, _]) dX16_reckons_35 rfl ?_
      refine l3_X16_reckons hM1 h3 hi (fun o2 o3 o4 => ?_) (s_kcn (nI i) + 1) 0 _ _ _ (Nat.zero_le _) s_eqN.rfl' rfl (by omega)
      refine w_op (pc' := 200) (ll' := [_, _, _, _, _]) dX16_reckons_197 rfl ?_
      refine w_goto (t := 29) dX16_reckons_200 (by decide) ?_
      rw [show nI i + Int32.ofInt 1 = nI (i + 1) from nI_1 i]
      rw [s_run_s hi] at hr
      exact ih (i + 1) _ _ _ _ (by omega) (e.trans (s_eqN.qrcD i I1)) hr (by omega)
set_option maxRecDepth 100000 in
set_option maxHeartbeats 4000000 in
theorem l_X16_reckons {X : e_XT} {d : Nat} {p : e_Sp} {I : e_I} {J : e_Jt} {c : Nat × Nat} {w : e_Rw1} {Q : e_Rt → e_SS → Prop} {nk nr np : Nat} (hM : q_D p I nk nr np) {R : e_I} (h3 : 3 ≤ nk) (hr : s_run (q_rcD nk nr) 0 3 (s_fill I f_m_counts np 0) = R) (k : Q (.inl none) (p, R, J, c, w)) : ∀ (n : Nat) (i : Nat) (o2 o3 o4 : Option Value), (h1 : i ≤ np) → (hn : np - i < n) → s_w X (d + 5) K_X16_reckons 6 [some (.ref (p.1 T_MODEL 0)), some (.int (nI i)), o2, o3, o4] [] (p, s_fill I f_m_counts i 0, J, c, w) (fun r S' => e_rcr (none) r = true ∧ Q r S') := by
  intro n
  induction n with
  | zero =>
    intro i o2 o3 o4 h1 hn
    exact absurd hn (Nat.not_lt_zero _)
  | succ n ih =>
    intro i o2 o3 o4 h1 hn
    have e : s_eqN [f_m_counts] I (s_fill I f_m_counts i 0) := s_eqN.fill (by decide)
    have hM1 := hM.eqN e (by decide)
    have hp := hM1.1
    have hk40 := hM1.2.1
    have hr10 := hM1.2.2.1
    have hnp := hM1.2.2.2.1
    refine w_op (pc' := 7) dX16_reckons_6 rfl ?_
    refine w_op (pc' := 8) dX16_reckons_7 rfl ?_
    refine t_getI (F := f_m_pipes) dX16_reckons_8 rfl rfl (by decide) rfl ⟨rfl, fun _ => rfl⟩ (hp.1 _ rfl) ?_
    rw [hnp.2]
    refine w_icmpge (t := 27) dX16_reckons_11 (by decide) (fun c11 => ?_) (fun c11 => ?_)
    · refine w_iconst (v := 0) dX16_reckons_27 rfl ?_
      refine w_op (pc' := 29) (ll' := [_, _, _, _, _]) dX16_reckons_28 rfl ?_
      have hi : np ≤ i := (nI_leI (by omega) (by omega)).mp c11
      obtain rfl : i = np := by omega
      exact l4_X16_reckons hM1 h3 k 4 0 _ _ _ _ (Nat.zero_le _) s_eqN.rfl' hr (by omega)
    · have hi : i < np := Nat.lt_of_not_le (fun z => c11 ((nI_leI (by omega) (by omega)).mpr z))
      refine w_op (pc' := 15) dX16_reckons_14 rfl ?_
      refine t_getG0 (G := g_m_counts) dX16_reckons_15 rfl rfl (by decide) rfl (fun _ => rfl) (hp.1 _ rfl) ?_
      refine w_op (pc' := 19) dX16_reckons_18 rfl ?_
      refine w_iconst (v := 0) dX16_reckons_19 rfl ?_
      refine t_iast0 (F := f_m_counts) dX16_reckons_20 rfl (by decide) (by decide) rfl (hp.1 _ rfl) (show s_ix _ _ 1280 from s_ix.nI (by omega) (by decide)) (show i < 1280 by omega) ?_
      refine w_op (pc' := 24) (ll' := [_, _, _, _, _]) dX16_reckons_21 rfl ?_
      refine w_goto (t := 6) dX16_reckons_24 (by decide) ?_
      rw [show nI i + Int32.ofInt 1 = nI (i + 1) from nI_1 i]
      rw [s_fill_up]
      exact ih (i + 1) _ _ _ (by omega) (by omega)
set_option maxRecDepth 100000 in
set_option maxHeartbeats 4000000 in
theorem c_X16_reckons {X : e_XT} {d : Nat} {p : e_Sp} {I : e_I} {J : e_Jt} {c : Nat × Nat} {w : e_Rw1} {Q : e_Rt → e_SS → Prop} {nk nr np : Nat} (hM : q_D p I nk nr np) (h3 : 3 ≤ nk) (hS : q_S I) (hb : q_bo I f_m_isDown) (hb2 : q_bo I f_m_isRelay) (k : Q (.inl none) (p, q_rc nk nr np I, J, c, w)) : s_c X (d + 5) 220 [.ref (p.1 T_MODEL 0)] (p, I, J, c, w) Q := by
  have hp := hM.1
  refine m_X16_reckons (Nat.le_of_ble_eq_true rfl) ?_
  show s_w _ _ _ 0 _ _ _ _
  refine w_op (pc' := 1) dX16_reckons_0 rfl ?_
  refine t_callV (t := T_MODEL) (As := []) dX16_reckons_1 rfl rM_X16_relays (by decide) rfl rfl (by decide) (by decide) (Nat.le_of_ble_eq_true rfl) rfl (hp.1 _ rfl) (c_X16_relays hM hS hb hb2 ?_)
  show s_w _ _ _ 4 _ _ _ _
  refine w_iconst (v := 0) dX16_reckons_4 rfl ?_
  refine w_op (pc' := 6) (ll' := [_, _, _, _, _]) dX16_reckons_5 rfl ?_
  rw [show q_rel nk I = s_fill (q_rel nk I) f_m_counts 0 0 from s_fill_0.symm]
  exact l_X16_reckons (hM.eqN s_eqN.qrel (by decide)) h3 rfl k (np + 1) 0 _ _ _ (Nat.zero_le _) (by omega)

set_option maxRecDepth 100000 in
set_option maxHeartbeats 4000000 in
theorem c_X16_isBlown {X : e_XT} {d : Nat} {p : e_Sp} {I : e_I} {J : e_Jt} {c : Nat × Nat} {w : e_Rw1} {Q : e_Rt → e_SS → Prop} (hp : s_ok p) {q : Nat} (hq : q < 1280) (k : Q (.inl (some (.int (bI (q_bl I q))))) (p, I, J, c, w)) : s_c X (d + 0) 237 [.ref (p.1 T_MODEL 0), .int (nI q)] (p, I, J, c, w) Q := by
  refine m_X16_isBlown (Nat.le_of_ble_eq_true rfl) ?_
  show s_w _ _ _ 0 _ _ _ _
  refine w_op (pc' := 1) dX16_isBlown_0 rfl ?_
  refine t_getG0 (G := g_m_fault) dX16_isBlown_1 rfl rfl (by decide) rfl (fun _ => rfl) (hp.1 _ rfl) ?_
  refine w_op (pc' := 5) dX16_isBlown_4 rfl ?_
  refine t_cald0 (F := f_m_fault) dX16_isBlown_5 rfl (by decide) rfl (hp.1 _ rfl) (show s_ix _ _ 1280 from s_ix.nI hq (by decide)) hq ?_
  refine w_bipush (v := 100) dX16_isBlown_6 rfl ?_
  refine w_icmpeq (t := 35) dX16_isBlown_8 (by decide) (fun c8 => ?_) (fun c8 => ?_)
  · refine w_iconst (v := 0) dX16_isBlown_35 rfl ?_
    exact w_ireturn dX16_isBlown_36 ⟨s_rcb (by first | exact Or.inl rfl | exact Or.inr rfl | exact bI_or _), s_eqi (by unfold q_bl; grind) k⟩
  · refine w_op (pc' := 12) dX16_isBlown_11 rfl ?_
    refine t_getG0 (G := g_m_isOpen) dX16_isBlown_12 rfl rfl (by decide) rfl (fun _ => rfl) (hp.1 _ rfl) ?_
    refine w_op (pc' := 16) dX16_isBlown_15 rfl ?_
    refine t_bald0 (F := f_m_isOpen) dX16_isBlown_16 rfl (by decide) rfl (hp.1 _ rfl) (show s_ix _ _ 1280 from s_ix.nI hq (by decide)) hq ?_
    refine w_ifne (t := 31) dX16_isBlown_17 (by decide) (fun c17 => ?_) (fun c17 => ?_)
    · refine w_iconst (v := 1) dX16_isBlown_31 rfl ?_
      refine w_goto (t := 36) dX16_isBlown_32 (by decide) ?_
      exact w_ireturn dX16_isBlown_36 ⟨s_rcb (by first | exact Or.inl rfl | exact Or.inr rfl | exact bI_or _), s_eqi (by unfold q_bl; grind) k⟩
    · refine w_op (pc' := 21) dX16_isBlown_20 rfl ?_
      refine t_getG0 (G := g_m_fault) dX16_isBlown_21 rfl rfl (by decide) rfl (fun _ => rfl) (hp.1 _ rfl) ?_
      refine w_op (pc' := 25) dX16_isBlown_24 rfl ?_
      refine t_cald0 (F := f_m_fault) dX16_isBlown_25 rfl (by decide) rfl (hp.1 _ rfl) (show s_ix _ _ 1280 from s_ix.nI hq (by decide)) hq ?_
      refine w_bipush (v := 99) dX16_isBlown_26 rfl ?_
      refine w_icmpne (t := 35) dX16_isBlown_28 (by decide) (fun c28 => ?_) (fun c28 => ?_)
      · refine w_iconst (v := 0) dX16_isBlown_35 rfl ?_
        exact w_ireturn dX16_isBlown_36 ⟨s_rcb (by first | exact Or.inl rfl | exact Or.inr rfl | exact bI_or _), s_eqi (by unfold q_bl; grind) k⟩
      · refine w_iconst (v := 1) dX16_isBlown_31 rfl ?_
        refine w_goto (t := 36) dX16_isBlown_32 (by decide) ?_
        exact w_ireturn dX16_isBlown_36 ⟨s_rcb (by first | exact Or.inl rfl | exact Or.inr rfl | exact bI_or _), s_eqi (by unfold q_bl; grind) k⟩

set_option maxRecDepth 100000 in
set_option maxHeartbeats 4000000 in
theorem l_X16_trembles {X : e_XT} {d : Nat} {p : e_Sp} {I : e_I} {J : e_Jt} {c : Nat × Nat} {w : e_Rw1} {Q : e_Rt → e_SS → Prop} {nk nr np : Nat} (hM : q_D p I nk nr np) {x : Int32} (k : Q (.inl (some (.int (bI (q_tr I nk x))))) (p, I, J, c, w)) : ∀ (n : Nat) (i : Nat), (h1 : i ≤ nk) → (hn : nk - i < n) → s_w X (d + 3) K_X16_trembles 4 [some (.ref (p.1 T_MODEL 0)), some (.int x), some (.int (bI (s_ex i (q_trf I x)))), some (.int (nI i))] [] (p, I, J, c, w) (fun r S' => e_rcr (some FieldType.boolean) r = true ∧ Q r S') := by
  intro n
  induction n with
  | zero =>
    intro i h1 hn
    exact absurd hn (Nat.not_lt_zero _)
  | succ n ih =>
    intro i h1 hn
    have hp := hM.1
    have hk40 := hM.2.1
    refine w_op (pc' := 5) dX16_trembles_4 rfl ?_
    refine w_op (pc' := 6) dX16_trembles_5 rfl ?_
    refine t_getG0 (G := g_m_list1) dX16_trembles_6 rfl rfl (by decide) rfl (fun _ => rfl) (hp.1 _ rfl) ?_
    refine t_callV (t := T_LIST) (As := []) dX16_trembles_9 rfl rM_Jx4a65c_size_8abf5 (by decide) rfl rfl (by decide) (by decide) (Nat.le_of_ble_eq_true rfl) rfl (hp.2 _ (by decide)) (c_size (hp.2 _ (by decide)) ?_)
    show s_w _ _ _ 12 _ _ _ _
    rw [hk40.2]
    refine w_icmpge (t := 86) dX16_trembles_12 (by decide) (fun c12 => ?_) (fun c12 => ?_)
    · obtain rfl : i = nk := by have := (nI_leI (by omega) (by omega)).mp c12; omega
      refine w_op (pc' := 87) dX16_trembles_86 rfl ?_
      refine w_ifeq (t := 104) dX16_trembles_87 (by decide) (fun c87 => ?_) (fun c87 => ?_)
      · refine w_iconst (v := 0) dX16_trembles_104 rfl ?_
        exact w_ireturn dX16_trembles_105 ⟨s_rcb (by first | exact Or.inl rfl | exact Or.inr rfl | exact bI_or _), s_eqi (by unfold q_tr; grind) k⟩
      · refine w_op (pc' := 91) dX16_trembles_90 rfl ?_
        refine t_getI (F := f_m_tick) dX16_trembles_91 rfl rfl (by decide) rfl ⟨rfl, fun _ => rfl⟩ (hp.1 _ rfl) ?_
        refine w_iconst (v := 4) dX16_trembles_94 rfl ?_
        refine w_op (pc' := 96) dX16_trembles_95 (by rfl) ?_
        refine w_iconst (v := 1) dX16_trembles_96 rfl ?_
        refine w_icmple (t := 104) dX16_trembles_97 (by decide) (fun c97 => ?_) (fun c97 => ?_)
        · refine w_iconst (v := 0) dX16_trembles_104 rfl ?_
          exact w_ireturn dX16_trembles_105 ⟨s_rcb (by first | exact Or.inl rfl | exact Or.inr rfl | exact bI_or _), s_eqi (by unfold q_tr; grind) k⟩
        · refine w_iconst (v := 1) dX16_trembles_100 rfl ?_
          refine w_goto (t := 105) dX16_trembles_101 (by decide) ?_
          exact w_ireturn dX16_trembles_105 ⟨s_rcb (by first | exact Or.inl rfl | exact Or.inr rfl | exact bI_or _), s_eqi (by unfold q_tr; grind) k⟩
    · have hi : i < nk := Nat.lt_of_not_le (fun z => c12 ((nI_leI (by omega) (by omega)).mpr z))
      have hK := hM.2.2.2.2.1 i hi
      refine w_op (pc' := 16) dX16_trembles_15 rfl ?_
      refine w_ifne (t := 74) dX16_trembles_16 (by decide) (fun c16 => ?_) (fun c16 => ?_)
      · refine w_iconst (v := 1) dX16_trembles_74 rfl ?_
        refine w_goto (t := 79) dX16_trembles_75 (by decide) ?_
        refine w_op (pc' := 80) (ll' := [_, _, _, _]) dX16_trembles_79 rfl ?_
        refine w_op (pc' := 83) (ll' := [_, _, _, _]) dX16_trembles_80 rfl ?_
        refine w_goto (t := 4) dX16_trembles_83 (by decide) ?_
        rw [show nI i + Int32.ofInt 1 = nI (i + 1) from nI_1 i]
        have ef : 1 = bI (s_ex (i + 1) (q_trf I x)) := by show _ = bI (s_ex i (q_trf I x) || q_trf I x i); rw [bI_n0.mp c16]; rfl
        rw [ef]
        exact ih (i + 1) (by omega) (by omega)
      · refine w_op (pc' := 20) dX16_trembles_19 rfl ?_
        refine t_getG0 (G := g_m_list1) dX16_trembles_20 rfl rfl (by decide) rfl (fun _ => rfl) (hp.1 _ rfl) ?_
        refine w_op (pc' := 24) dX16_trembles_23 rfl ?_
        refine t_callV (t := T_LIST) (As := [_]) dX16_trembles_24 rfl rM_Jx4a65c_get_915e3 (by decide) rfl rfl (by decide) (by decide) (Nat.le_of_ble_eq_true rfl) rfl (hp.2 _ (by decide)) (c_get3 hp hk40.2 (by omega) hi ?_)
        show s_w _ _ _ 27 _ _ _ _
        refine t_chk dX16_trembles_27 rfl rfl (by decide) hK.1 ?_
        refine t_getI (F := f_mk_kind) dX16_trembles_30 rfl rfl (by decide) rfl ⟨rfl, fun _ => rfl⟩ hK.1 ?_
        refine w_bipush (v := 116) dX16_trembles_33 rfl ?_
        refine w_icmpne (t := 78) dX16_trembles_35 (by decide) (fun c35 => ?_) (fun c35 => ?_)
        · refine w_iconst (v := 0) dX16_trembles_78 rfl ?_
          refine w_op (pc' := 80) (ll' := [_, _, _, _]) dX16_trembles_79 rfl ?_
          refine w_op (pc' := 83) (ll' := [_, _, _, _]) dX16_trembles_80 rfl ?_
          refine w_goto (t := 4) dX16_trembles_83 (by decide) ?_
          rw [show nI i + Int32.ofInt 1 = nI (i + 1) from nI_1 i]
          have ef : 0 = bI (s_ex (i + 1) (q_trf I x)) := by show _ = bI (s_ex i (q_trf I x) || q_trf I x i); rw [bI_0.mp c16]; unfold q_trf; grind
          rw [ef]
          exact ih (i + 1) (by omega) (by omega)
        · refine w_op (pc' := 39) dX16_trembles_38 rfl ?_
          refine t_getG0 (G := g_m_list1) dX16_trembles_39 rfl rfl (by decide) rfl (fun _ => rfl) (hp.1 _ rfl) ?_
          refine w_op (pc' := 43) dX16_trembles_42 rfl ?_
          refine t_callV (t := T_LIST) (As := [_]) dX16_trembles_43 rfl rM_Jx4a65c_get_915e3 (by decide) rfl rfl (by decide) (by decide) (Nat.le_of_ble_eq_true rfl) rfl (hp.2 _ (by decide)) (c_get3 hp hk40.2 (by omega) hi ?_)
          show s_w _ _ _ 46 _ _ _ _
          refine t_chk dX16_trembles_46 rfl rfl (by decide) hK.1 ?_
          refine t_getI (F := f_mk_division) dX16_trembles_49 rfl rfl (by decide) rfl ⟨rfl, fun _ => rfl⟩ hK.1 ?_
          refine w_op (pc' := 53) dX16_trembles_52 rfl ?_
          refine w_icmpne (t := 78) dX16_trembles_53 (by decide) (fun c53 => ?_) (fun c53 => ?_)
          · refine w_iconst (v := 0) dX16_trembles_78 rfl ?_
            refine w_op (pc' := 80) (ll' := [_, _, _, _]) dX16_trembles_79 rfl ?_
            refine w_op (pc' := 83) (ll' := [_, _, _, _]) dX16_trembles_80 rfl ?_
            refine w_goto (t := 4) dX16_trembles_83 (by decide) ?_
            rw [show nI i + Int32.ofInt 1 = nI (i + 1) from nI_1 i]
            have ef : 0 = bI (s_ex (i + 1) (q_trf I x)) := by show _ = bI (s_ex i (q_trf I x) || q_trf I x i); rw [bI_0.mp c16]; unfold q_trf; grind
            rw [ef]
            exact ih (i + 1) (by omega) (by omega)
          · refine w_op (pc' := 57) dX16_trembles_56 rfl ?_
            refine w_op (pc' := 58) dX16_trembles_57 rfl ?_
            refine t_getG0 (G := g_m_list1) dX16_trembles_58 rfl rfl (by decide) rfl (fun _ => rfl) (hp.1 _ rfl) ?_
            refine w_op (pc' := 62) dX16_trembles_61 rfl ?_
            refine t_callV (t := T_LIST) (As := [_]) dX16_trembles_62 rfl rM_Jx4a65c_get_915e3 (by decide) rfl rfl (by decide) (by decide) (Nat.le_of_ble_eq_true rfl) rfl (hp.2 _ (by decide)) (c_get3 hp hk40.2 (by omega) hi ?_)
            show s_w _ _ _ 65 _ _ _ _
            refine t_chk dX16_trembles_65 rfl rfl (by decide) hK.1 ?_
            refine t_callV (t := T_MODEL) (As := [_]) dX16_trembles_68 rfl rM_X16_counts (by decide) rfl rfl (by decide) (by decide) (Nat.le_of_ble_eq_true rfl) rfl (hp.1 _ rfl) (c_X16_counts hp hK ?_)
            show s_w _ _ _ 71 _ _ _ _
            refine w_ifeq (t := 78) dX16_trembles_71 (by decide) (fun c71 => ?_) (fun c71 => ?_)
            · refine w_iconst (v := 0) dX16_trembles_78 rfl ?_
              refine w_op (pc' := 80) (ll' := [_, _, _, _]) dX16_trembles_79 rfl ?_
              refine w_op (pc' := 83) (ll' := [_, _, _, _]) dX16_trembles_80 rfl ?_
              refine w_goto (t := 4) dX16_trembles_83 (by decide) ?_
              rw [show nI i + Int32.ofInt 1 = nI (i + 1) from nI_1 i]
              have ef : 0 = bI (s_ex (i + 1) (q_trf I x)) := by show _ = bI (s_ex i (q_trf I x) || q_trf I x i); rw [bI_0.mp c16]; unfold q_trf; grind
              rw [ef]
              exact ih (i + 1) (by omega) (by omega)
            · refine w_iconst (v := 1) dX16_trembles_74 rfl ?_
              refine w_goto (t := 79) dX16_trembles_75 (by decide) ?_
              refine w_op (pc' := 80) (ll' := [_, _, _, _]) dX16_trembles_79 rfl ?_
              refine w_op (pc' := 83) (ll' := [_, _, _, _]) dX16_trembles_80 rfl ?_
              refine w_goto (t := 4) dX16_trembles_83 (by decide) ?_
              rw [show nI i + Int32.ofInt 1 = nI (i + 1) from nI_1 i]
              have ef : 1 = bI (s_ex (i + 1) (q_trf I x)) := by show _ = bI (s_ex i (q_trf I x) || q_trf I x i); rw [bI_0.mp c16]; unfold q_trf; grind
              rw [ef]
              exact ih (i + 1) (by omega) (by omega)
set_option maxRecDepth 100000 in
set_option maxHeartbeats 4000000 in
theorem c_X16_trembles {X : e_XT} {d : Nat} {p : e_Sp} {I : e_I} {J : e_Jt} {c : Nat × Nat} {w : e_Rw1} {Q : e_Rt → e_SS → Prop} {nk nr np : Nat} (hM : q_D p I nk nr np) {x : Int32} (k : Q (.inl (some (.int (bI (q_tr I nk x))))) (p, I, J, c, w)) : s_c X (d + 3) 238 [.ref (p.1 T_MODEL 0), .int x] (p, I, J, c, w) Q := by
  refine m_X16_trembles (Nat.le_of_ble_eq_true rfl) ?_
  show s_w _ _ _ 0 _ _ _ _
  refine w_iconst (v := 0) dX16_trembles_0 rfl ?_
  refine w_op (pc' := 2) (ll' := [_, _, _, _]) dX16_trembles_1 rfl ?_
  refine w_iconst (v := 0) dX16_trembles_2 rfl ?_
  refine w_op (pc' := 4) (ll' := [_, _, _, _]) dX16_trembles_3 rfl ?_
  exact l_X16_trembles hM k (nk + 1) 0 (Nat.zero_le _) (by omega)

set_option maxRecDepth 100000 in
set_option maxHeartbeats 4000000 in
theorem l2_X16_blows {X : e_XT} {d : Nat} {p : e_Sp} {I : e_I} {J : e_Jt} {c : Nat × Nat} {w : e_Rw1} {Q : e_Rt → e_SS → Prop} {nk nr np : Nat} (hM : q_D p I nk nr np) {dd : Nat} {r9 : Int32} (hd : dd < 3) (hk : s_w X (d + 4) K_X16_blows 82 [some (.ref (p.1 T_MODEL 0)), some (.int (nI dd)), some (.int r9), some (.int (nI np))] [] (p, I, J, c, w) (fun r S' => e_rcr (none) r = true ∧ Q r S')) : ∀ (n : Nat) (i : Nat) (u : Int32), (h1 : i ≤ np) → (hr : s_run (q_us I dd) i (np - i) u = r9) → (hn : np - i < n) → s_w X (d + 4) K_X16_blows 11 [some (.ref (p.1 T_MODEL 0)), some (.int (nI dd)), some (.int u), some (.int (nI i))] [] (p, I, J, c, w) (fun r S' => e_rcr (none) r = true ∧ Q r S') := by
  intro n
  induction n with
  | zero =>
    intro i u h1 hr hn
    exact absurd hn (Nat.not_lt_zero _)
  | succ n ih =>
    intro i u h1 hr hn
    have hM1 := hM
    have hp := hM.1
    have hr10 := hM.2.2.1
    have hnp := hM.2.2.2.1
    refine w_op (pc' := 12) dX16_blows_11 rfl ?_
    refine w_op (pc' := 13) dX16_blows_12 rfl ?_
    refine t_getI (F := f_m_pipes) dX16_blows_13 rfl rfl (by decide) rfl ⟨rfl, fun _ => rfl⟩ (hp.1 _ rfl) ?_
    rw [hnp.2]
    refine w_icmpge (t := 82) dX16_blows_16 (by decide) (fun c16 => ?_) (fun c16 => ?_)
    · obtain rfl : i = np := by have := (nI_leI (by omega) (by omega)).mp c16; omega
      rw [s_run_z (Nat.le_refl _)] at hr; subst hr; exact hk
    · have hi : i < np := Nat.lt_of_not_le (fun z => c16 ((nI_leI (by omega) (by omega)).mpr z))
      obtain ⟨r, b, hr2, er, -⟩ := hM1.2.2.2.2.2.2 i hi
      have erk : q_rk I i = r := by unfold q_rk; rw [er, nI_clamp (by omega)]
      have hv := (hM1.2.2.2.2.2.1 r hr2).1
      refine w_op (pc' := 20) dX16_blows_19 rfl ?_
      refine w_op (pc' := 21) dX16_blows_20 rfl ?_
      refine w_op (pc' := 22) dX16_blows_21 rfl ?_
      refine t_callV (t := T_MODEL) (As := [_]) dX16_blows_22 rfl rM_X16_isBlown (by decide) rfl rfl (by decide) (by decide) (Nat.le_of_ble_eq_true rfl) rfl (hp.1 _ rfl) (c_X16_isBlown hp (show i < 1280 by omega) ?_)
      show s_w _ _ _ 25 _ _ _ _
      refine w_ifeq (t := 73) dX16_blows_25 (by decide) (fun c25 => ?_) (fun c25 => ?_)
      · refine w_iconst (v := 0) dX16_blows_73 rfl ?_
        refine w_op (pc' := 75) dX16_blows_74 rfl ?_
        refine w_op (pc' := 76) (ll' := [_, _, _, _]) dX16_blows_75 rfl ?_
        refine w_op (pc' := 79) (ll' := [_, _, _, _]) dX16_blows_76 rfl ?_
        refine w_goto (t := 11) dX16_blows_79 (by decide) ?_
        rw [show nI i + Int32.ofInt 1 = nI (i + 1) from nI_1 i]
        have ef : q_us I dd i u = _ := congrArg (u + ·) (if_neg (fun z => by have z1 := z.1; rw [bI_0.mp c25] at z1; cases z1))
        rw [s_run_s hi, ef] at hr
        exact ih (i + 1) _ (by omega) hr (by omega)
      · refine w_op (pc' := 29) dX16_blows_28 rfl ?_
        refine t_getG0 (G := g_m_list0) dX16_blows_29 rfl rfl (by decide) rfl (fun _ => rfl) (hp.1 _ rfl) ?_
        refine w_op (pc' := 33) dX16_blows_32 rfl ?_
        refine t_getG0 (G := g_m_rankOf) dX16_blows_33 rfl rfl (by decide) rfl (fun _ => rfl) (hp.1 _ rfl) ?_
        refine w_op (pc' := 37) dX16_blows_36 rfl ?_
        refine t_iald0 (F := f_m_rankOf) dX16_blows_37 rfl (by decide) rfl (hp.1 _ rfl) (show s_ix _ _ 1280 from s_ix.nI (by omega) (by decide)) (show i < 1280 by omega) ?_
        rw [er]
        refine t_callV (t := T_LIST) (As := [_]) dX16_blows_38 rfl rM_Jx4a65c_get_915e3 (by decide) rfl rfl (by decide) (by decide) (Nat.le_of_ble_eq_true rfl) rfl (hp.2 _ (by decide)) (c_get2 hp hr10.2 (by omega) hr2 ?_)
        show s_w _ _ _ 41 _ _ _ _
        refine t_chk dX16_blows_41 rfl rfl (by decide) (by assumption) ?_
        refine t_getI (F := f_mr_division) dX16_blows_44 rfl rfl (by decide) rfl ⟨rfl, fun _ => rfl⟩ (by assumption) ?_
        refine w_op (pc' := 48) dX16_blows_47 rfl ?_
        refine w_icmpne (t := 73) dX16_blows_48 (by decide) (fun c48 => ?_) (fun c48 => ?_)
        · refine w_iconst (v := 0) dX16_blows_73 rfl ?_
          refine w_op (pc' := 75) dX16_blows_74 rfl ?_
          refine w_op (pc' := 76) (ll' := [_, _, _, _]) dX16_blows_75 rfl ?_
          refine w_op (pc' := 79) (ll' := [_, _, _, _]) dX16_blows_76 rfl ?_
          refine w_goto (t := 11) dX16_blows_79 (by decide) ?_
          rw [show nI i + Int32.ofInt 1 = nI (i + 1) from nI_1 i]
          have ef : q_us I dd i u = _ := congrArg (u + ·) (if_neg (by rw [erk]; exact fun z => c48 z.2))
          rw [s_run_s hi, ef] at hr
          exact ih (i + 1) _ (by omega) hr (by omega)
        · refine w_op (pc' := 52) dX16_blows_51 rfl ?_
          refine t_getG0 (G := g_m_list0) dX16_blows_52 rfl rfl (by decide) rfl (fun _ => rfl) (hp.1 _ rfl) ?_
          refine w_op (pc' := 56) dX16_blows_55 rfl ?_
          refine t_getG0 (G := g_m_rankOf) dX16_blows_56 rfl rfl (by decide) rfl (fun _ => rfl) (hp.1 _ rfl) ?_
          refine w_op (pc' := 60) dX16_blows_59 rfl ?_
          refine t_iald0 (F := f_m_rankOf) dX16_blows_60 rfl (by decide) rfl (hp.1 _ rfl) (show s_ix _ _ 1280 from s_ix.nI (by omega) (by decide)) (show i < 1280 by omega) ?_
          rw [er]
          refine t_callV (t := T_LIST) (As := [_]) dX16_blows_61 rfl rM_Jx4a65c_get_915e3 (by decide) rfl rfl (by decide) (by decide) (Nat.le_of_ble_eq_true rfl) rfl (hp.2 _ (by decide)) (c_get2 hp hr10.2 (by omega) hr2 ?_)
          show s_w _ _ _ 64 _ _ _ _
          refine t_chk dX16_blows_64 rfl rfl (by decide) (by assumption) ?_
          refine t_getI (F := f_mr_wind) dX16_blows_67 rfl rfl (by decide) rfl ⟨rfl, fun _ => rfl⟩ (by assumption) ?_
          refine w_goto (t := 74) dX16_blows_70 (by decide) ?_
          refine w_op (pc' := 75) dX16_blows_74 rfl ?_
          refine w_op (pc' := 76) (ll' := [_, _, _, _]) dX16_blows_75 rfl ?_
          refine w_op (pc' := 79) (ll' := [_, _, _, _]) dX16_blows_76 rfl ?_
          refine w_goto (t := 11) dX16_blows_79 (by decide) ?_
          rw [show nI i + Int32.ofInt 1 = nI (i + 1) from nI_1 i]
          have ef : q_us I dd i u = _ := congrArg (u + ·) ((if_pos (by rw [erk]; exact ⟨bI_n0.mp c25, c48⟩)).trans (by rw [erk]))
          rw [s_run_s hi, ef] at hr
          exact ih (i + 1) _ (by omega) hr (by omega)
set_option maxRecDepth 100000 in
set_option maxHeartbeats 4000000 in
theorem l3_X16_blows {X : e_XT} {d : Nat} {p : e_Sp} {I : e_I} {J : e_Jt} {c : Nat × Nat} {w : e_Rw1} {Q : e_Rt → e_SS → Prop} {nk nr np : Nat} (hM : q_D p I nk nr np) {i : Nat} {u : Int32} (hi : i < 3) (hu : s_run (q_us I i) 0 np 0 = u) (k : ∀ o2 o3, s_w X (d + 4) K_X16_blows 128 [some (.ref (p.1 T_MODEL 0)), some (.int (nI i)), o2, o3] [] (p, q_bw nk np i I, J, c, w) (fun r S' => e_rcr (none) r = true ∧ Q r S')) : s_w X (d + 4) K_X16_blows 82 [some (.ref (p.1 T_MODEL 0)), some (.int (nI i)), some (.int u), some (.int (nI np))] [] (p, I, J, c, w) (fun r S' => e_rcr (none) r = true ∧ Q r S') := by
  have hp := hM.1
  refine w_iconst (v := 0) dX16_blows_82 rfl ?_
  refine w_op (pc' := 84) dX16_blows_83 rfl ?_
  refine w_op (pc' := 85) dX16_blows_84 rfl ?_
  refine t_getG0 (G := g_m_supply) dX16_blows_85 rfl rfl (by decide) rfl (fun _ => rfl) (hp.1 _ rfl) ?_
  refine w_op (pc' := 89) dX16_blows_88 rfl ?_
  refine t_iald0 (F := f_m_supply) dX16_blows_89 rfl (by decide) rfl (hp.1 _ rfl) (show s_ix _ _ 3 from s_ix.nI hi (by decide)) hi ?_
  refine w_op (pc' := 91) dX16_blows_90 rfl ?_
  refine t_callS (As := [_, _]) dX16_blows_91 rfl rM_J9_max_7cf53 (by decide) rfl rfl (by decide) (Nat.le_of_ble_eq_true rfl) (c_max ?_)
  show s_w _ _ _ 94 _ _ _ _
  refine w_op (pc' := 95) (ll' := [_, _, _, _]) dX16_blows_94 rfl ?_
  refine w_op (pc' := 96) dX16_blows_95 rfl ?_
  refine t_getG0 (G := g_m_winds) dX16_blows_96 rfl rfl (by decide) rfl (fun _ => rfl) (hp.1 _ rfl) ?_
  refine w_op (pc' := 100) dX16_blows_99 rfl ?_
  refine w_iconst (v := 0) dX16_blows_100 rfl ?_
  refine w_bipush (v := 100) dX16_blows_101 rfl ?_
  refine w_op (pc' := 104) dX16_blows_103 rfl ?_
  refine w_iconst (v := 1) dX16_blows_104 rfl ?_
  refine w_op (pc' := 106) dX16_blows_105 rfl ?_
  refine w_iconst (v := 2) dX16_blows_106 rfl ?_
  refine w_op (pc' := 108) dX16_blows_107 (by rfl) ?_
  refine w_op (pc' := 109) dX16_blows_108 rfl ?_
  refine w_op (pc' := 110) dX16_blows_109 rfl ?_
  refine w_op (pc' := 111) dX16_blows_110 rfl ?_
  refine t_callV (t := T_MODEL) (As := [_]) dX16_blows_111 rfl rM_X16_trembles (by decide) rfl rfl (by decide) (by decide) (Nat.le_of_ble_eq_true rfl) rfl (hp.1 _ rfl) (c_X16_trembles hM ?_)
  show s_w _ _ _ 114 _ _ _ _
  refine w_ifeq (t := 122) dX16_blows_114 (by decide) (fun c114 => ?_) (fun c114 => ?_)
  · refine w_iconst (v := 0) dX16_blows_122 rfl ?_
    refine w_op (pc' := 124) dX16_blows_123 rfl ?_
    refine t_callS (As := [_, _]) dX16_blows_124 rfl rM_J9_max_7cf53 (by decide) rfl rfl (by decide) (Nat.le_of_ble_eq_true rfl) (c_max ?_)
    show s_w _ _ _ 127 _ _ _ _
    refine t_iast0 (F := f_m_winds) dX16_blows_127 rfl (by decide) (by decide) rfl (hp.1 _ rfl) (show s_ix _ _ 3 from s_ix.nI hi (by decide)) hi ?_
    unfold q_bw q_wd at k
    rw [hu, if_neg (by rw [bI_0.mp c114]; decide)] at k
    exact k _ _
  · refine w_bipush (v := 10) dX16_blows_117 rfl ?_
    refine w_goto (t := 123) dX16_blows_119 (by decide) ?_
    refine w_op (pc' := 124) dX16_blows_123 rfl ?_
    refine t_callS (As := [_, _]) dX16_blows_124 rfl rM_J9_max_7cf53 (by decide) rfl rfl (by decide) (Nat.le_of_ble_eq_true rfl) (c_max ?_)
    show s_w _ _ _ 127 _ _ _ _
    refine t_iast0 (F := f_m_winds) dX16_blows_127 rfl (by decide) (by decide) rfl (hp.1 _ rfl) (show s_ix _ _ 3 from s_ix.nI hi (by decide)) hi ?_
    unfold q_bw q_wd at k
    rw [hu, if_pos (bI_n0.mp c114)] at k
    exact k _ _

set_option maxRecDepth 100000 in
set_option maxHeartbeats 4000000 in
theorem l_X16_blows {X : e_XT} {d : Nat} {p : e_Sp} {I : e_I} {J : e_Jt} {c : Nat × Nat} {w : e_Rw1} {Q : e_Rt → e_SS → Prop} {nk nr np : Nat} (hM : q_D p I nk nr np) {R : e_I} (k : Q (.inl none) (p, R, J, c, w)) : ∀ (n : Nat) (i : Nat) (I1 : e_I) (o2 o3 : Option Value), (h1 : i ≤ 3) → (e : s_eqN [f_m_winds] I I1) → (hr : s_run (q_bw nk np) i (3 - i) I1 = R) → (hn : 3 - i < n) → s_w X (d + 4) K_X16_blows 2 [some (.ref (p.1 T_MODEL 0)), some (.int (nI i)), o2, o3] [] (p, I1, J, c, w) (fun r S' => e_rcr (none) r = true ∧ Q r S') := by
  intro n
  induction n with
  | zero =>
    intro i I1 o2 o3 h1 e hr hn
    exact absurd hn (Nat.not_lt_zero _)
  | succ n ih =>
    intro i I1 o2 o3 h1 e hr hn
    have hM1 := hM.eqN e (by decide)
    refine w_op (pc' := 3) dX16_blows_2 rfl ?_
    refine w_iconst (v := 3) dX16_blows_3 rfl ?_
    refine w_icmpge (t := 134) dX16_blows_4 (by decide) (fun c4 => ?_) (fun c4 => ?_)
    · have hi : 3 ≤ i := (nI_leI (a := 3) (by omega) (by omega)).mp c4
      exact w_return dX16_blows_134 ⟨rfl, by rw [s_run_z hi] at hr; subst hr; exact k⟩
    · have hi : i < 3 := Nat.lt_of_not_le (fun z => c4 ((nI_leI (a := 3) (by omega) (by omega)).mpr z))
      refine w_iconst (v := 0) dX16_blows_7 rfl ?_
      refine w_op (pc' := 9) (ll' := [_, _, _, _]) dX16_blows_8 rfl ?_
      refine w_iconst (v := 0) dX16_blows_9 rfl ?_
      refine w_op (pc' := 11) (ll' := [_, _, _, _]) dX16_blows_10 rfl ?_
      refine l2_X16_blows hM1 hi ?_ (np + 1) 0 _ (Nat.zero_le _) rfl (by omega)
      generalize hu : s_run (q_us I1 i) 0 np 0 = u
      exact l3_X16_blows hM1 hi hu (fun o2 o3 => by
        refine w_op (pc' := 131) (ll' := [_, _, _, _]) dX16_blows_128 rfl ?_
        refine w_goto (t := 2) dX16_blows_131 (by decide) ?_
        rw [show nI i + Int32.ofInt 1 = nI (i + 1) from nI_1 i]
        rw [s_run_s hi] at hr
        exact ih (i + 1) _ _ _ (by omega) (e.trans (s_eqN.up (by decide))) hr (by omega))
set_option maxRecDepth 100000 in
set_option maxHeartbeats 4000000 in
theorem c_X16_blows {X : e_XT} {d : Nat} {p : e_Sp} {I : e_I} {J : e_Jt} {c : Nat × Nat} {w : e_Rw1} {Q : e_Rt → e_SS → Prop} {nk nr np : Nat} (hM : q_D p I nk nr np) (k : Q (.inl none) (p, q_bws nk np I, J, c, w)) : s_c X (d + 4) 236 [.ref (p.1 T_MODEL 0)] (p, I, J, c, w) Q := by
  refine m_X16_blows (Nat.le_of_ble_eq_true rfl) ?_
  show s_w _ _ _ 0 _ _ _ _
  refine w_iconst (v := 0) dX16_blows_0 rfl ?_
  refine w_op (pc' := 2) (ll' := [_, _, _, _]) dX16_blows_1 rfl ?_
  exact l_X16_blows hM k 4 0 _ _ _ (Nat.zero_le _) s_eqN.rfl' rfl (by omega)

set_option maxRecDepth 100000 in
set_option maxHeartbeats 4000000 in
theorem c_X16_moves {X : e_XT} {d : Nat} {p : e_Sp} {I : e_I} {J : e_Jt} {c : Nat × Nat} {w : e_Rw1} {Q : e_Rt → e_SS → Prop} {nk nr np : Nat} (hM : q_D p I nk nr np) {q : Nat} (hq : q < np) (k : Q (.inl none) (p, q_mv q I, J, c, w)) : s_c X (d + 3) 235 [.ref (p.1 T_MODEL 0), .int (nI q)] (p, I, J, c, w) Q := by
  have hp := hM.1
  have hk40 := hM.2.1
  have hr10 := hM.2.2.1
  have hnp := hM.2.2.2.1
  obtain ⟨r, b, hr, er, -⟩ := hM.2.2.2.2.2.2 q hq
  have erk : q_rk I q = r := by unfold q_rk; rw [er, nI_clamp (by omega)]
  have hv := (hM.2.2.2.2.2.1 r hr).1
  refine m_X16_moves (Nat.le_of_ble_eq_true rfl) ?_
  show s_w _ _ _ 0 _ _ _ _
  refine w_op (pc' := 1) dX16_moves_0 rfl ?_
  refine t_getG0 (G := g_m_list0) dX16_moves_1 rfl rfl (by decide) rfl (fun _ => rfl) (hp.1 _ rfl) ?_
  refine w_op (pc' := 5) dX16_moves_4 rfl ?_
  refine t_getG0 (G := g_m_rankOf) dX16_moves_5 rfl rfl (by decide) rfl (fun _ => rfl) (hp.1 _ rfl) ?_
  refine w_op (pc' := 9) dX16_moves_8 rfl ?_
  refine t_iald0 (F := f_m_rankOf) dX16_moves_9 rfl (by decide) rfl (hp.1 _ rfl) (show s_ix _ _ 1280 from s_ix.nI (by omega) (by decide)) (show q < 1280 by omega) ?_
  rw [er]
  refine t_callV (t := T_LIST) (As := [_]) dX16_moves_10 rfl rM_Jx4a65c_get_915e3 (by decide) rfl rfl (by decide) (by decide) (Nat.le_of_ble_eq_true rfl) rfl (hp.2 _ (by decide)) (c_get2 hp hr10.2 (by omega) hr ?_)
  show s_w _ _ _ 13 _ _ _ _
  refine t_chk dX16_moves_13 rfl rfl (by decide) (by assumption) ?_
  refine w_op (pc' := 17) (ll' := [_, _, _]) dX16_moves_16 rfl ?_
  refine w_op (pc' := 18) dX16_moves_17 rfl ?_
  refine t_getG0 (G := g_m_isWanted) dX16_moves_18 rfl rfl (by decide) rfl (fun _ => rfl) (hp.1 _ rfl) ?_
  refine w_op (pc' := 22) dX16_moves_21 rfl ?_
  refine t_bald0 (F := f_m_isWanted) dX16_moves_22 rfl (by decide) rfl (hp.1 _ rfl) (show s_ix _ _ 1280 from s_ix.nI (by omega) (by decide)) (show q < 1280 by omega) ?_
  refine w_ifeq (t := 81) dX16_moves_23 (by decide) (fun c23 => ?_) (fun c23 => ?_)
  · refine w_op (pc' := 82) dX16_moves_81 rfl ?_
    refine t_getG0 (G := g_m_isWanted) dX16_moves_82 rfl rfl (by decide) rfl (fun _ => rfl) (hp.1 _ rfl) ?_
    refine w_op (pc' := 86) dX16_moves_85 rfl ?_
    refine t_bald0 (F := f_m_isWanted) dX16_moves_86 rfl (by decide) rfl (hp.1 _ rfl) (show s_ix _ _ 1280 from s_ix.nI (by omega) (by decide)) (show q < 1280 by omega) ?_
    refine w_ifne (t := 134) dX16_moves_87 (by decide) (fun c87 => ?_) (fun c87 => ?_)
    · exact w_return dX16_moves_134 ⟨rfl, (by unfold q_mv at k; rw [erk] at k; rw [if_neg (by grind), if_neg (by grind)] at k; exact k)⟩
    · refine w_op (pc' := 91) dX16_moves_90 rfl ?_
      refine t_getG0 (G := g_m_isOpen) dX16_moves_91 rfl rfl (by decide) rfl (fun _ => rfl) (hp.1 _ rfl) ?_
      refine w_op (pc' := 95) dX16_moves_94 rfl ?_
      refine t_bald0 (F := f_m_isOpen) dX16_moves_95 rfl (by decide) rfl (hp.1 _ rfl) (show s_ix _ _ 1280 from s_ix.nI (by omega) (by decide)) (show q < 1280 by omega) ?_
      refine w_ifeq (t := 134) dX16_moves_96 (by decide) (fun c96 => ?_) (fun c96 => ?_)
      · exact w_return dX16_moves_134 ⟨rfl, (by unfold q_mv at k; rw [erk] at k; rw [if_neg (by grind), if_neg (by grind)] at k; exact k)⟩
      · refine w_op (pc' := 100) dX16_moves_99 rfl ?_
        refine t_getI (F := f_m_tick) dX16_moves_100 rfl rfl (by decide) rfl ⟨rfl, fun _ => rfl⟩ (hp.1 _ rfl) ?_
        refine w_op (pc' := 104) dX16_moves_103 rfl ?_
        refine t_getG0 (G := g_m_since) dX16_moves_104 rfl rfl (by decide) rfl (fun _ => rfl) (hp.1 _ rfl) ?_
        refine w_op (pc' := 108) dX16_moves_107 rfl ?_
        refine t_iald0 (F := f_m_since) dX16_moves_108 rfl (by decide) rfl (hp.1 _ rfl) (show s_ix _ _ 1280 from s_ix.nI (by omega) (by decide)) (show q < 1280 by omega) ?_
        refine w_op (pc' := 110) dX16_moves_109 rfl ?_
        refine w_op (pc' := 111) dX16_moves_110 rfl ?_
        refine t_getI (F := f_mr_delay) dX16_moves_111 rfl rfl (by decide) rfl ⟨rfl, fun _ => rfl⟩ (by assumption) ?_
        refine w_icmplt (t := 134) dX16_moves_114 (by decide) (fun c114 => ?_) (fun c114 => ?_)
        · exact w_return dX16_moves_134 ⟨rfl, (by unfold q_mv at k; rw [erk] at k; rw [if_neg (by grind), if_neg (by grind)] at k; exact k)⟩
        · refine w_op (pc' := 118) dX16_moves_117 rfl ?_
          refine t_getG0 (G := g_m_isOpen) dX16_moves_118 rfl rfl (by decide) rfl (fun _ => rfl) (hp.1 _ rfl) ?_
          refine w_op (pc' := 122) dX16_moves_121 rfl ?_
          refine w_iconst (v := 0) dX16_moves_122 rfl ?_
          refine t_bast0 (F := f_m_isOpen) dX16_moves_123 rfl (by decide) (by decide) rfl (hp.1 _ rfl) (show s_ix _ _ 1280 from s_ix.nI (by omega) (by decide)) (show q < 1280 by omega) (by first | exact Or.inl rfl | exact Or.inr rfl | assumption) ?_
          refine w_op (pc' := 125) dX16_moves_124 rfl ?_
          refine t_getG0 (G := g_m_closedSince) dX16_moves_125 rfl rfl (by decide) rfl (fun _ => rfl) (hp.1 _ rfl) ?_
          refine w_op (pc' := 129) dX16_moves_128 rfl ?_
          refine w_op (pc' := 130) dX16_moves_129 rfl ?_
          refine t_getI (F := f_m_tick) dX16_moves_130 rfl rfl (by decide) rfl ⟨rfl, fun _ => rfl⟩ (hp.1 _ rfl) ?_
          refine t_iast0 (F := f_m_closedSince) dX16_moves_133 rfl (by decide) (by decide) rfl (hp.1 _ rfl) (show s_ix _ _ 1280 from s_ix.nI (by omega) (by decide)) (show q < 1280 by omega) ?_
          exact w_return dX16_moves_134 ⟨rfl, (by unfold q_mv at k; rw [erk] at k; rw [if_neg (by grind), if_pos (by grind)] at k; exact k)⟩
  · refine w_op (pc' := 27) dX16_moves_26 rfl ?_
    refine t_getG0 (G := g_m_isOpen) dX16_moves_27 rfl rfl (by decide) rfl (fun _ => rfl) (hp.1 _ rfl) ?_
    refine w_op (pc' := 31) dX16_moves_30 rfl ?_
    refine t_bald0 (F := f_m_isOpen) dX16_moves_31 rfl (by decide) rfl (hp.1 _ rfl) (show s_ix _ _ 1280 from s_ix.nI (by omega) (by decide)) (show q < 1280 by omega) ?_
    refine w_ifne (t := 81) dX16_moves_32 (by decide) (fun c32 => ?_) (fun c32 => ?_)
    · refine w_op (pc' := 82) dX16_moves_81 rfl ?_
      refine t_getG0 (G := g_m_isWanted) dX16_moves_82 rfl rfl (by decide) rfl (fun _ => rfl) (hp.1 _ rfl) ?_
      refine w_op (pc' := 86) dX16_moves_85 rfl ?_
      refine t_bald0 (F := f_m_isWanted) dX16_moves_86 rfl (by decide) rfl (hp.1 _ rfl) (show s_ix _ _ 1280 from s_ix.nI (by omega) (by decide)) (show q < 1280 by omega) ?_
      refine w_ifne (t := 134) dX16_moves_87 (by decide) (fun c87 => ?_) (fun c87 => ?_)
      · exact w_return dX16_moves_134 ⟨rfl, (by unfold q_mv at k; rw [erk] at k; rw [if_neg (by grind), if_neg (by grind)] at k; exact k)⟩
      · refine w_op (pc' := 91) dX16_moves_90 rfl ?_
        refine t_getG0 (G := g_m_isOpen) dX16_moves_91 rfl rfl (by decide) rfl (fun _ => rfl) (hp.1 _ rfl) ?_
        refine w_op (pc' := 95) dX16_moves_94 rfl ?_
        refine t_bald0 (F := f_m_isOpen) dX16_moves_95 rfl (by decide) rfl (hp.1 _ rfl) (show s_ix _ _ 1280 from s_ix.nI (by omega) (by decide)) (show q < 1280 by omega) ?_
        refine w_ifeq (t := 134) dX16_moves_96 (by decide) (fun c96 => ?_) (fun c96 => ?_)
        · exact w_return dX16_moves_134 ⟨rfl, (by unfold q_mv at k; rw [erk] at k; rw [if_neg (by grind), if_neg (by grind)] at k; exact k)⟩
        · refine w_op (pc' := 100) dX16_moves_99 rfl ?_
          refine t_getI (F := f_m_tick) dX16_moves_100 rfl rfl (by decide) rfl ⟨rfl, fun _ => rfl⟩ (hp.1 _ rfl) ?_
          refine w_op (pc' := 104) dX16_moves_103 rfl ?_
          refine t_getG0 (G := g_m_since) dX16_moves_104 rfl rfl (by decide) rfl (fun _ => rfl) (hp.1 _ rfl) ?_
          refine w_op (pc' := 108) dX16_moves_107 rfl ?_
          refine t_iald0 (F := f_m_since) dX16_moves_108 rfl (by decide) rfl (hp.1 _ rfl) (show s_ix _ _ 1280 from s_ix.nI (by omega) (by decide)) (show q < 1280 by omega) ?_
          refine w_op (pc' := 110) dX16_moves_109 rfl ?_
          refine w_op (pc' := 111) dX16_moves_110 rfl ?_
          refine t_getI (F := f_mr_delay) dX16_moves_111 rfl rfl (by decide) rfl ⟨rfl, fun _ => rfl⟩ (by assumption) ?_
          refine w_icmplt (t := 134) dX16_moves_114 (by decide) (fun c114 => ?_) (fun c114 => ?_)
          · exact w_return dX16_moves_134 ⟨rfl, (by unfold q_mv at k; rw [erk] at k; rw [if_neg (by grind), if_neg (by grind)] at k; exact k)⟩
          · refine w_op (pc' := 118) dX16_moves_117 rfl ?_
            refine t_getG0 (G := g_m_isOpen) dX16_moves_118 rfl rfl (by decide) rfl (fun _ => rfl) (hp.1 _ rfl) ?_
            refine w_op (pc' := 122) dX16_moves_121 rfl ?_
            refine w_iconst (v := 0) dX16_moves_122 rfl ?_
            refine t_bast0 (F := f_m_isOpen) dX16_moves_123 rfl (by decide) (by decide) rfl (hp.1 _ rfl) (show s_ix _ _ 1280 from s_ix.nI (by omega) (by decide)) (show q < 1280 by omega) (by first | exact Or.inl rfl | exact Or.inr rfl | assumption) ?_
            refine w_op (pc' := 125) dX16_moves_124 rfl ?_
            refine t_getG0 (G := g_m_closedSince) dX16_moves_125 rfl rfl (by decide) rfl (fun _ => rfl) (hp.1 _ rfl) ?_
            refine w_op (pc' := 129) dX16_moves_128 rfl ?_
            refine w_op (pc' := 130) dX16_moves_129 rfl ?_
            refine t_getI (F := f_m_tick) dX16_moves_130 rfl rfl (by decide) rfl ⟨rfl, fun _ => rfl⟩ (hp.1 _ rfl) ?_
            refine t_iast0 (F := f_m_closedSince) dX16_moves_133 rfl (by decide) (by decide) rfl (hp.1 _ rfl) (show s_ix _ _ 1280 from s_ix.nI (by omega) (by decide)) (show q < 1280 by omega) ?_
            exact w_return dX16_moves_134 ⟨rfl, (by unfold q_mv at k; rw [erk] at k; rw [if_neg (by grind), if_pos (by grind)] at k; exact k)⟩
    · refine w_op (pc' := 36) dX16_moves_35 rfl ?_
      refine t_getI (F := f_m_tick) dX16_moves_36 rfl rfl (by decide) rfl ⟨rfl, fun _ => rfl⟩ (hp.1 _ rfl) ?_
      refine w_op (pc' := 40) dX16_moves_39 rfl ?_
      refine t_getG0 (G := g_m_since) dX16_moves_40 rfl rfl (by decide) rfl (fun _ => rfl) (hp.1 _ rfl) ?_
      refine w_op (pc' := 44) dX16_moves_43 rfl ?_
      refine t_iald0 (F := f_m_since) dX16_moves_44 rfl (by decide) rfl (hp.1 _ rfl) (show s_ix _ _ 1280 from s_ix.nI (by omega) (by decide)) (show q < 1280 by omega) ?_
      refine w_op (pc' := 46) dX16_moves_45 rfl ?_
      refine w_op (pc' := 47) dX16_moves_46 rfl ?_
      refine t_getI (F := f_mr_delay) dX16_moves_47 rfl rfl (by decide) rfl ⟨rfl, fun _ => rfl⟩ (by assumption) ?_
      refine w_icmplt (t := 81) dX16_moves_50 (by decide) (fun c50 => ?_) (fun c50 => ?_)
      · refine w_op (pc' := 82) dX16_moves_81 rfl ?_
        refine t_getG0 (G := g_m_isWanted) dX16_moves_82 rfl rfl (by decide) rfl (fun _ => rfl) (hp.1 _ rfl) ?_
        refine w_op (pc' := 86) dX16_moves_85 rfl ?_
        refine t_bald0 (F := f_m_isWanted) dX16_moves_86 rfl (by decide) rfl (hp.1 _ rfl) (show s_ix _ _ 1280 from s_ix.nI (by omega) (by decide)) (show q < 1280 by omega) ?_
        refine w_ifne (t := 134) dX16_moves_87 (by decide) (fun c87 => ?_) (fun c87 => ?_)
        · exact w_return dX16_moves_134 ⟨rfl, (by unfold q_mv at k; rw [erk] at k; rw [if_neg (by grind), if_neg (by grind)] at k; exact k)⟩
        · refine w_op (pc' := 91) dX16_moves_90 rfl ?_
          refine t_getG0 (G := g_m_isOpen) dX16_moves_91 rfl rfl (by decide) rfl (fun _ => rfl) (hp.1 _ rfl) ?_
          refine w_op (pc' := 95) dX16_moves_94 rfl ?_
          refine t_bald0 (F := f_m_isOpen) dX16_moves_95 rfl (by decide) rfl (hp.1 _ rfl) (show s_ix _ _ 1280 from s_ix.nI (by omega) (by decide)) (show q < 1280 by omega) ?_
          refine w_ifeq (t := 134) dX16_moves_96 (by decide) (fun c96 => ?_) (fun c96 => ?_)
          · exact w_return dX16_moves_134 ⟨rfl, (by unfold q_mv at k; rw [erk] at k; rw [if_neg (by grind), if_neg (by grind)] at k; exact k)⟩
          · refine w_op (pc' := 100) dX16_moves_99 rfl ?_
            refine t_getI (F := f_m_tick) dX16_moves_100 rfl rfl (by decide) rfl ⟨rfl, fun _ => rfl⟩ (hp.1 _ rfl) ?_
            refine w_op (pc' := 104) dX16_moves_103 rfl ?_
            refine t_getG0 (G := g_m_since) dX16_moves_104 rfl rfl (by decide) rfl (fun _ => rfl) (hp.1 _ rfl) ?_
            refine w_op (pc' := 108) dX16_moves_107 rfl ?_
            refine t_iald0 (F := f_m_since) dX16_moves_108 rfl (by decide) rfl (hp.1 _ rfl) (show s_ix _ _ 1280 from s_ix.nI (by omega) (by decide)) (show q < 1280 by omega) ?_
            refine w_op (pc' := 110) dX16_moves_109 rfl ?_
            refine w_op (pc' := 111) dX16_moves_110 rfl ?_
            refine t_getI (F := f_mr_delay) dX16_moves_111 rfl rfl (by decide) rfl ⟨rfl, fun _ => rfl⟩ (by assumption) ?_
            refine w_icmplt (t := 134) dX16_moves_114 (by decide) (fun c114 => ?_) (fun c114 => ?_)
            · exact w_return dX16_moves_134 ⟨rfl, (by unfold q_mv at k; rw [erk] at k; rw [if_neg (by grind), if_neg (by grind)] at k; exact k)⟩
            · refine w_op (pc' := 118) dX16_moves_117 rfl ?_
              refine t_getG0 (G := g_m_isOpen) dX16_moves_118 rfl rfl (by decide) rfl (fun _ => rfl) (hp.1 _ rfl) ?_
              refine w_op (pc' := 122) dX16_moves_121 rfl ?_
              refine w_iconst (v := 0) dX16_moves_122 rfl ?_
              refine t_bast0 (F := f_m_isOpen) dX16_moves_123 rfl (by decide) (by decide) rfl (hp.1 _ rfl) (show s_ix _ _ 1280 from s_ix.nI (by omega) (by decide)) (show q < 1280 by omega) (by first | exact Or.inl rfl | exact Or.inr rfl | assumption) ?_
              refine w_op (pc' := 125) dX16_moves_124 rfl ?_
              refine t_getG0 (G := g_m_closedSince) dX16_moves_125 rfl rfl (by decide) rfl (fun _ => rfl) (hp.1 _ rfl) ?_
              refine w_op (pc' := 129) dX16_moves_128 rfl ?_
              refine w_op (pc' := 130) dX16_moves_129 rfl ?_
              refine t_getI (F := f_m_tick) dX16_moves_130 rfl rfl (by decide) rfl ⟨rfl, fun _ => rfl⟩ (hp.1 _ rfl) ?_
              refine t_iast0 (F := f_m_closedSince) dX16_moves_133 rfl (by decide) (by decide) rfl (hp.1 _ rfl) (show s_ix _ _ 1280 from s_ix.nI (by omega) (by decide)) (show q < 1280 by omega) ?_
              exact w_return dX16_moves_134 ⟨rfl, (by unfold q_mv at k; rw [erk] at k; rw [if_neg (by grind), if_pos (by grind)] at k; exact k)⟩
      · refine w_op (pc' := 54) dX16_moves_53 rfl ?_
        refine t_getI (F := f_m_tick) dX16_moves_54 rfl rfl (by decide) rfl ⟨rfl, fun _ => rfl⟩ (hp.1 _ rfl) ?_
        refine w_op (pc' := 58) dX16_moves_57 rfl ?_
        refine t_getG0 (G := g_m_closedSince) dX16_moves_58 rfl rfl (by decide) rfl (fun _ => rfl) (hp.1 _ rfl) ?_
        refine w_op (pc' := 62) dX16_moves_61 rfl ?_
        refine t_iald0 (F := f_m_closedSince) dX16_moves_62 rfl (by decide) rfl (hp.1 _ rfl) (show s_ix _ _ 1280 from s_ix.nI (by omega) (by decide)) (show q < 1280 by omega) ?_
        refine w_op (pc' := 64) dX16_moves_63 rfl ?_
        refine w_op (pc' := 65) dX16_moves_64 rfl ?_
        refine t_getI (F := f_mr_rest) dX16_moves_65 rfl rfl (by decide) rfl ⟨rfl, fun _ => rfl⟩ (by assumption) ?_
        refine w_icmplt (t := 81) dX16_moves_68 (by decide) (fun c68 => ?_) (fun c68 => ?_)
        · refine w_op (pc' := 82) dX16_moves_81 rfl ?_
          refine t_getG0 (G := g_m_isWanted) dX16_moves_82 rfl rfl (by decide) rfl (fun _ => rfl) (hp.1 _ rfl) ?_
          refine w_op (pc' := 86) dX16_moves_85 rfl ?_
          refine t_bald0 (F := f_m_isWanted) dX16_moves_86 rfl (by decide) rfl (hp.1 _ rfl) (show s_ix _ _ 1280 from s_ix.nI (by omega) (by decide)) (show q < 1280 by omega) ?_
          refine w_ifne (t := 134) dX16_moves_87 (by decide) (fun c87 => ?_) (fun c87 => ?_)
          · exact w_return dX16_moves_134 ⟨rfl, (by unfold q_mv at k; rw [erk] at k; rw [if_neg (by grind), if_neg (by grind)] at k; exact k)⟩
          · refine w_op (pc' := 91) dX16_moves_90 rfl ?_
            refine t_getG0 (G := g_m_isOpen) dX16_moves_91 rfl rfl (by decide) rfl (fun _ => rfl) (hp.1 _ rfl) ?_
            refine w_op (pc' := 95) dX16_moves_94 rfl ?_
            refine t_bald0 (F := f_m_isOpen) dX16_moves_95 rfl (by decide) rfl (hp.1 _ rfl) (show s_ix _ _ 1280 from s_ix.nI (by omega) (by decide)) (show q < 1280 by omega) ?_
            refine w_ifeq (t := 134) dX16_moves_96 (by decide) (fun c96 => ?_) (fun c96 => ?_)
            · exact w_return dX16_moves_134 ⟨rfl, (by unfold q_mv at k; rw [erk] at k; rw [if_neg (by grind), if_neg (by grind)] at k; exact k)⟩
            · refine w_op (pc' := 100) dX16_moves_99 rfl ?_
              refine t_getI (F := f_m_tick) dX16_moves_100 rfl rfl (by decide) rfl ⟨rfl, fun _ => rfl⟩ (hp.1 _ rfl) ?_
              refine w_op (pc' := 104) dX16_moves_103 rfl ?_
              refine t_getG0 (G := g_m_since) dX16_moves_104 rfl rfl (by decide) rfl (fun _ => rfl) (hp.1 _ rfl) ?_
              refine w_op (pc' := 108) dX16_moves_107 rfl ?_
              refine t_iald0 (F := f_m_since) dX16_moves_108 rfl (by decide) rfl (hp.1 _ rfl) (show s_ix _ _ 1280 from s_ix.nI (by omega) (by decide)) (show q < 1280 by omega) ?_
              refine w_op (pc' := 110) dX16_moves_109 rfl ?_
              refine w_op (pc' := 111) dX16_moves_110 rfl ?_
              refine t_getI (F := f_mr_delay) dX16_moves_111 rfl rfl (by decide) rfl ⟨rfl, fun _ => rfl⟩ (by assumption) ?_
              refine w_icmplt (t := 134) dX16_moves_114 (by decide) (fun c114 => ?_) (fun c114 => ?_)
              · exact w_return dX16_moves_134 ⟨rfl, (by unfold q_mv at k; rw [erk] at k; rw [if_neg (by grind), if_neg (by grind)] at k; exact k)⟩
              · refine w_op (pc' := 118) dX16_moves_117 rfl ?_
                refine t_getG0 (G := g_m_isOpen) dX16_moves_118 rfl rfl (by decide) rfl (fun _ => rfl) (hp.1 _ rfl) ?_
                refine w_op (pc' := 122) dX16_moves_121 rfl ?_
                refine w_iconst (v := 0) dX16_moves_122 rfl ?_
                refine t_bast0 (F := f_m_isOpen) dX16_moves_123 rfl (by decide) (by decide) rfl (hp.1 _ rfl) (show s_ix _ _ 1280 from s_ix.nI (by omega) (by decide)) (show q < 1280 by omega) (by first | exact Or.inl rfl | exact Or.inr rfl | assumption) ?_
                refine w_op (pc' := 125) dX16_moves_124 rfl ?_
                refine t_getG0 (G := g_m_closedSince) dX16_moves_125 rfl rfl (by decide) rfl (fun _ => rfl) (hp.1 _ rfl) ?_
                refine w_op (pc' := 129) dX16_moves_128 rfl ?_
                refine w_op (pc' := 130) dX16_moves_129 rfl ?_
                refine t_getI (F := f_m_tick) dX16_moves_130 rfl rfl (by decide) rfl ⟨rfl, fun _ => rfl⟩ (hp.1 _ rfl) ?_
                refine t_iast0 (F := f_m_closedSince) dX16_moves_133 rfl (by decide) (by decide) rfl (hp.1 _ rfl) (show s_ix _ _ 1280 from s_ix.nI (by omega) (by decide)) (show q < 1280 by omega) ?_
                exact w_return dX16_moves_134 ⟨rfl, (by unfold q_mv at k; rw [erk] at k; rw [if_neg (by grind), if_pos (by grind)] at k; exact k)⟩
        · refine w_op (pc' := 72) dX16_moves_71 rfl ?_
          refine t_getG0 (G := g_m_isOpen) dX16_moves_72 rfl rfl (by decide) rfl (fun _ => rfl) (hp.1 _ rfl) ?_
          refine w_op (pc' := 76) dX16_moves_75 rfl ?_
          refine w_iconst (v := 1) dX16_moves_76 rfl ?_
          refine t_bast0 (F := f_m_isOpen) dX16_moves_77 rfl (by decide) (by decide) rfl (hp.1 _ rfl) (show s_ix _ _ 1280 from s_ix.nI (by omega) (by decide)) (show q < 1280 by omega) (by first | exact Or.inl rfl | exact Or.inr rfl | assumption) ?_
          refine w_goto (t := 134) dX16_moves_78 (by decide) ?_
          exact w_return dX16_moves_134 ⟨rfl, (by unfold q_mv at k; rw [erk] at k; rw [if_pos (by grind)] at k; exact k)⟩

set_option maxRecDepth 100000 in
set_option maxHeartbeats 4000000 in
theorem c_X16_answer {X : e_XT} {d : Nat} {p : e_Sp} {I : e_I} {J : e_Jt} {c : Nat × Nat} {w : e_Rw1} {Q : e_Rt → e_SS → Prop} (hp : s_ok p) {x : Int32} (k : Q (.inl (some (.int x))) (p, s_up I f_m_thrown 0 0, J, c, w)) : s_c X (d + 0) 239 [.ref (p.1 T_MODEL 0), .int x] (p, I, J, c, w) Q := by
  refine m_X16_answer (Nat.le_of_ble_eq_true rfl) ?_
  show s_w _ _ _ 0 _ _ _ _
  refine w_op (pc' := 1) dX16_answer_0 rfl ?_
  refine w_iconst (v := 0) dX16_answer_1 rfl ?_
  refine t_putI (F := f_m_thrown) dX16_answer_2 rfl rfl (by decide) (by decide) rfl rfl (Or.inl rfl) (hp.1 _ rfl) ?_
  refine w_op (pc' := 6) dX16_answer_5 rfl ?_
  exact w_ireturn dX16_answer_6 ⟨rfl, k⟩

set_option maxRecDepth 100000 in
set_option maxHeartbeats 4000000 in
theorem c_X16_says {X : e_XT} {d : Nat} {p : e_Sp} {I : e_I} {J : e_Jt} {c : Nat × Nat} {w : e_Rw1} {Q : e_Rt → e_SS → Prop} (hp : s_ok p) {x : Int32} (hx : x = 0 ∨ x = 1) (k : Q (.inl (some (.int x))) (p, s_up I f_m_thrown 0 0, J, c, w)) : s_c X (d + 0) 250 [.ref (p.1 T_MODEL 0), .int x] (p, I, J, c, w) Q := by
  refine m_X16_says (Nat.le_of_ble_eq_true rfl) ?_
  show s_w _ _ _ 0 _ _ _ _
  refine w_op (pc' := 1) dX16_says_0 rfl ?_
  refine w_iconst (v := 0) dX16_says_1 rfl ?_
  refine t_putI (F := f_m_thrown) dX16_says_2 rfl rfl (by decide) (by decide) rfl rfl (Or.inl rfl) (hp.1 _ rfl) ?_
  refine w_op (pc' := 6) dX16_says_5 rfl ?_
  exact w_ireturn dX16_says_6 ⟨s_rcb hx, k⟩

set_option maxRecDepth 100000 in
set_option maxHeartbeats 4000000 in
theorem c_X16_fails {X : e_XT} {d : Nat} {p : e_Sp} {I : e_I} {J : e_Jt} {c : Nat × Nat} {w : e_Rw1} {Q : e_Rt → e_SS → Prop} (hp : s_ok p) {x : Int32} (k : Q (.inl (some (.int 0))) (p, s_up I f_m_thrown 0 x, J, c, w)) : s_c X (d + 0) 217 [.ref (p.1 T_MODEL 0), .int x] (p, I, J, c, w) Q := by
  refine m_X16_fails (Nat.le_of_ble_eq_true rfl) ?_
  show s_w _ _ _ 0 _ _ _ _
  refine w_op (pc' := 1) dX16_fails_0 rfl ?_
  refine w_op (pc' := 2) dX16_fails_1 rfl ?_
  refine t_putI (F := f_m_thrown) dX16_fails_2 rfl rfl (by decide) (by decide) rfl rfl (Or.inl rfl) (hp.1 _ rfl) ?_
  refine w_iconst (v := 0) dX16_fails_5 rfl ?_
  exact w_ireturn dX16_fails_6 ⟨rfl, k⟩

set_option maxRecDepth 100000 in
set_option maxHeartbeats 4000000 in
theorem c_X16_refuses {X : e_XT} {d : Nat} {p : e_Sp} {I : e_I} {J : e_Jt} {c : Nat × Nat} {w : e_Rw1} {Q : e_Rt → e_SS → Prop} (hp : s_ok p) {x : Int32} (k : Q (.inl (some (.int 0))) (p, s_up I f_m_thrown 0 x, J, c, w)) : s_c X (d + 0) 248 [.ref (p.1 T_MODEL 0), .int x] (p, I, J, c, w) Q := by
  refine m_X16_refuses (Nat.le_of_ble_eq_true rfl) ?_
  show s_w _ _ _ 0 _ _ _ _
  refine w_op (pc' := 1) dX16_refuses_0 rfl ?_
  refine w_op (pc' := 2) dX16_refuses_1 rfl ?_
  refine t_putI (F := f_m_thrown) dX16_refuses_2 rfl rfl (by decide) (by decide) rfl rfl (Or.inl rfl) (hp.1 _ rfl) ?_
  refine w_iconst (v := 0) dX16_refuses_5 rfl ?_
  exact w_ireturn dX16_refuses_6 ⟨s_rcb (by first | exact Or.inl rfl | exact Or.inr rfl | exact bI_or _), k⟩

