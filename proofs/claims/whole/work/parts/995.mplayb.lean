/-! 995: what was recorded is played (printed by wip/whole/p995.py) -/
/-- what is recorded can be played: its ticks are t 0, t 1 .. -/
def q_Kp (I : e_I) (t : Nat → Nat) (n : Nat) : Prop := (∀ j, j < n → t j < 2147480000 ∧ I f_mt_tick j = nI (t j)) ∧ (∀ j, j + 1 < n → t j ≤ t (j + 1)) ∧ (∀ j, j < n → I f_mt_is j = 0 ∨ I f_mt_is j = 1) ∧ (I f_m_kindKept 0 = 107 → ∀ j, j < n → s_isk (I f_mt_division j) (I f_mt_at j)) ∧ (¬ I f_m_kindKept 0 = 107 → ∀ j, j < n → s_ix (I f_mt_at j) (I f_mt_at j).toNatClampNeg 1280)
def q_pbT (t : Nat → Nat) (nk nr np j : Nat) (a : e_I × e_Jt) : e_I × e_Jt := s_run (q_tc nk nr np) 0 (t j - t (j - 1)) a
def q_pbE (j : Nat) (I : e_I) : e_I := if I f_m_kindKept 0 = 107 then q_mdv I (I f_mt_division j) (I f_mt_at j) (I f_mt_is j) else s_up I f_m_isHeld (I f_mt_at j).toNatClampNeg (I f_mt_is j)
def q_pbS (t : Nat → Nat) (nk nr np j : Nat) (a : e_I × e_Jt) : e_I × e_Jt := q_st nk nr np (q_pbE j (q_pbT t nk nr np j a).1, (q_pbT t nk nr np j a).2)
def q_pT : List Nat := [f_m_tick, f_m_isDown, f_m_wentDown, f_m_isHeld] ++ q_sT0
theorem q_pbE_off {j : Nat} {I : e_I} (h : ¬ I f_m_recording 0 = 107) : s_eqN q_pT I (q_pbE j I) := by
  unfold q_pbE
  split
  · exact (q_mdv_off h).mono (by decide)
  · exact s_eqN.up (by decide)
theorem q_bo.tcs {nk nr np n i : Nat} {a : e_I × e_Jt} (h : q_bo a.1 f_m_isRelay) : q_bo (s_run (q_tc nk nr np) i n a).1 f_m_isRelay := s_run_pr (P := fun (a : e_I × e_Jt) => q_bo a.1 f_m_isRelay) (fun _ a h => q_bo.st (a := (s_up a.1 f_m_tick 0 (a.1 f_m_tick 0 + 1), a.2)) (h.eqN (s_eqN.up (T := [f_m_tick]) (by decide)) (by decide))) n i a h
theorem q_G.off {T : List Nat} {p p' : e_Sp} {I I' : e_I} {c c' : Nat × Nat} {nk nr np a b n n' : Nat} (h : q_G p I c nk nr np a b n) (x : q_X p p') (e : s_eqN T I I') (hT : q_fr4 T = true) (hT2 : T.contains f_l_size = false) (h1 : q_bo I' f_m_isDown) (h2 : q_bo I' f_m_isRelay) (hL : q_L p' I' c' a b n') : q_G p' I' c' nk nr np a b n := by
  have h9 : n' = n := hL.nn ((congrFun (e _ hT2) 4).trans h.2.2.2.2.2.1.n) (by have := h.2.2.2.2.2.2.2; omega)
  subst h9
  exact h.x x (q_e.of e hT2 (by unfold s_sub; rw [List.all_eq_true]; intro F hF; exact List.contains_iff_mem.mpr hF) (T := T)) hT h1 h2 hL h.2.2.2.2.2.2.1 h.2.2.2.2.2.2.2

set_option maxRecDepth 100000 in
set_option maxHeartbeats 800000 in
theorem le_X16_playBack {X : e_XT} {d : Nat} {p : e_Sp} {I : e_I} {J : e_Jt} {c : Nat × Nat} {w : e_Rw1} {Q : e_Rt → e_SS → Prop} {nk nr np a b n i : Nat} {b0 : Int64} (hi : i < n) (hX : (X 8).1 = 0) (hrec : I f_m_recording 0 = 45) (hG1 : q_G p (q_pbE i I) c nk nr np a b n) (hv : p.2.1 T_MKEPT i = true) (k : ∀ p' c', q_X p p' → q_G p' (q_st nk nr np (q_pbE i I, J)).1 c' nk nr np a b n → s_w X (d + 9) K_X16_playBack 153 [some (.ref (p'.1 T_MODEL 0)), some (.long b0), none, some (.int (I f_mt_tick i)), some (.int (nI i)), some (.ref (p'.1 T_MKEPT i))] [] (p', (q_st nk nr np (q_pbE i I, J)).1, (q_st nk nr np (q_pbE i I, J)).2, c', w) (fun r S' => e_rcr (some .int) r = true ∧ Q r S')) : s_w X (d + 9) K_X16_playBack 149 [some (.ref (p.1 T_MODEL 0)), some (.long b0), none, some (.int (I f_mt_tick i)), some (.int (nI i)), some (.ref (p.1 T_MKEPT i))] [] (p, q_pbE i I, J, c, w) (fun r S' => e_rcr (some .int) r = true ∧ Q r S') := by
  have hp := hG1.1.1
  refine w_op (pc' := 150) dX16_playBack_149 rfl ?_
  refine t_callV (t := T_MODEL) (As := []) dX16_playBack_150 rfl rM_X16_settles (by decide) rfl rfl (by decide) (by decide) (Nat.le_of_ble_eq_true rfl) rfl (hp.1 _ rfl) (c_X16_settles hG1.1 hG1.2.1 hG1.2.2.1 hG1.2.2.2.1 hG1.2.2.2.2.1 hG1.2.2.2.2.2.1 hX hG1.2.2.2.2.2.2.1 hG1.2.2.2.2.2.2.2 (fun p2 c2 n2 x2 hL2 hn2 => ?_))
  show s_w _ _ _ 153 _ _ _ _
  rw [← x2.a (t := T_MODEL) (i := 0) (by decide), ← (x2.2 i hv).1]
  exact k p2 c2 x2 (hG1.off x2 (q_st_off (a := (q_pbE i I, J)) (by show ¬ q_pbE i I f_m_recording 0 = 114; rw [q_pbE_off (by rw [hrec]; decide) f_m_recording (by decide), hrec]; decide)) (by decide) (by decide) (by unfold q_bo; rw [(q_st_off (a := (q_pbE i I, J)) (by show ¬ q_pbE i I f_m_recording 0 = 114; rw [q_pbE_off (by rw [hrec]; decide) f_m_recording (by decide), hrec]; decide)) f_m_isDown (by decide)]; exact hG1.2.2.2.1) (q_bo.st (a := (q_pbE i I, J)) hG1.2.2.2.2.1) hL2)

set_option maxRecDepth 100000 in
set_option maxHeartbeats 800000 in
theorem ls_X16_playBack {X : e_XT} {d : Nat} {p : e_Sp} {I : e_I} {J : e_Jt} {c : Nat × Nat} {w : e_Rw1} {Q : e_Rt → e_SS → Prop} {nk nr np a b n i : Nat} {b0 : Int64} {o3 : Option Value} (hi : i < n) (hX : (X 8).1 = 0) (hrec : I f_m_recording 0 = 45) (hG : q_G p I c nk nr np a b n) (hv : p.2.1 T_MKEPT i = true) (his : ∀ j, j < n → I f_mt_is j = 0 ∨ I f_mt_is j = 1) (hk1 : I f_m_kindKept 0 = 107 → s_isk (I f_mt_division i) (I f_mt_at i)) (hk2 : ¬ I f_m_kindKept 0 = 107 → s_ix (I f_mt_at i) (I f_mt_at i).toNatClampNeg 1280) (k : ∀ p' c', q_X p p' → q_G p' (q_st nk nr np (q_pbE i I, J)).1 c' nk nr np a b n → s_w X (d + 9) K_X16_playBack 153 [some (.ref (p'.1 T_MODEL 0)), some (.long b0), none, some (.int (I f_mt_tick i)), some (.int (nI i)), some (.ref (p'.1 T_MKEPT i))] [] (p', (q_st nk nr np (q_pbE i I, J)).1, (q_st nk nr np (q_pbE i I, J)).2, c', w) (fun r S' => e_rcr (some .int) r = true ∧ Q r S')) : s_w X (d + 9) K_X16_playBack 96 [some (.ref (p.1 T_MODEL 0)), some (.long b0), none, o3, some (.int (nI i)), some (.ref (p.1 T_MKEPT i))] [] (p, I, J, c, w) (fun r S' => e_rcr (some .int) r = true ∧ Q r S') := by
  have hp := hG.1.1
  refine w_op (pc' := 98) dX16_playBack_96 rfl ?_
  refine t_getI (F := f_mt_tick) dX16_playBack_98 rfl rfl (by decide) rfl ⟨rfl, fun _ => rfl⟩ hv ?_
  refine w_op (pc' := 102) (ll' := [_, _, _, _, _, _]) dX16_playBack_101 rfl ?_
  refine w_op (pc' := 103) dX16_playBack_102 rfl ?_
  refine t_getI (F := f_m_kindKept) dX16_playBack_103 rfl rfl (by decide) rfl ⟨rfl, fun _ => rfl⟩ (hp.1 _ rfl) ?_
  refine w_bipush (v := 107) dX16_playBack_106 rfl ?_
  refine w_icmpne (t := 134) dX16_playBack_108 (by decide) (fun c108 => ?_) (fun c108 => ?_)
  · refine w_op (pc' := 135) dX16_playBack_134 rfl ?_
    refine t_getG0 (G := g_m_isHeld) dX16_playBack_135 rfl rfl (by decide) rfl (fun _ => rfl) (hp.1 _ rfl) ?_
    refine w_op (pc' := 140) dX16_playBack_138 rfl ?_
    refine t_getI (F := f_mt_at) dX16_playBack_140 rfl rfl (by decide) rfl ⟨rfl, fun _ => rfl⟩ hv ?_
    refine w_op (pc' := 145) dX16_playBack_143 rfl ?_
    refine t_getI (F := f_mt_is) dX16_playBack_145 rfl rfl (by decide) rfl ⟨rfl, fun _ => rfl⟩ hv ?_
    refine t_bast0 (F := f_m_isHeld) dX16_playBack_148 rfl (by decide) (by decide) rfl (hp.1 _ rfl) (hk2 c108) (hk2 c108).2.2 (his i hi) ?_
    have ee : q_pbE i I = s_up I f_m_isHeld (I f_mt_at i).toNatClampNeg (I f_mt_is i) := if_neg c108
    rw [← ee]
    have hG1 : q_G p (q_pbE i I) c nk nr np a b n := by rw [ee]; exact hG.up (by decide)
    exact le_X16_playBack hi hX hrec hG1 hv k
  · refine w_op (pc' := 112) dX16_playBack_111 rfl ?_
    refine w_op (pc' := 114) dX16_playBack_112 rfl ?_
    refine t_getI (F := f_mt_division) dX16_playBack_114 rfl rfl (by decide) rfl ⟨rfl, fun _ => rfl⟩ hv ?_
    refine w_op (pc' := 119) dX16_playBack_117 rfl ?_
    refine t_getI (F := f_mt_at) dX16_playBack_119 rfl rfl (by decide) rfl ⟨rfl, fun _ => rfl⟩ hv ?_
    refine w_op (pc' := 124) dX16_playBack_122 rfl ?_
    refine t_getI (F := f_mt_is) dX16_playBack_124 rfl rfl (by decide) rfl ⟨rfl, fun _ => rfl⟩ hv ?_
    refine t_callV (t := T_MODEL) (As := [_, _, _]) dX16_playBack_127 rfl rM_X16_moved (by decide) rfl rfl (by decide) (by decide) (Nat.le_of_ble_eq_true rfl) rfl (hp.1 _ rfl) (c_X16_moved hp (hk1 c108) (his i hi) hG.2.2.2.1 hG.2.2.2.2.2.1 hX hG.2.2.2.2.2.2.1 hG.2.2.2.2.2.2.2 (fun p1 c1 n1 x1 hL1 hn1 => ?_))
    show s_w _ _ _ 130 _ _ _ _
    rw [← x1.a (t := T_MODEL) (i := 0) (by decide), ← (x1.2 i hv).1]
    have ee : q_pbE i I = q_mdv I (I f_mt_division i) (I f_mt_at i) (I f_mt_is i) := if_pos c108
    rw [← ee] at hL1 ⊢
    have hG1 : q_G p1 (q_pbE i I) c1 nk nr np a b n := hG.off x1 (q_pbE_off (by rw [hrec]; decide)) (by decide) (by decide) (by rw [ee]; exact hG.2.2.2.1.mdv (his i hi)) (by unfold q_bo; rw [ee, q_mdv_e.F (F := f_m_isRelay) (by decide)]; exact hG.2.2.2.2.1) hL1
    have hp := hG1.1.1
    refine w_op (pc' := 131) dX16_playBack_130 rfl ?_
    refine w_goto (t := 149) dX16_playBack_131 (by decide) ?_
    exact le_X16_playBack hi hX hrec hG1 (x1.2 i hv).2 (fun p2 c2 x2 hG2 => k p2 c2 (x1.trans x2) hG2)

