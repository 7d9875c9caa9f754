/-! 95: the second implementation settles (printed by wip/whole/p95.py) -/
theorem q_cs_s (g : Nat) : q_cs g < q_cs (g + 1) ∧ 10 ≤ q_cs (g + 1) := by
  induction g with
  | zero => show 0 < s_cap 0 ∧ 10 ≤ s_cap 0; unfold s_cap; decide
  | succ g ih =>
    show q_cs (g + 1) < s_cap (q_cs (g + 1)) ∧ 10 ≤ s_cap (q_cs (g + 1))
    unfold s_cap
    split <;> omega
theorem q_cs_ge : ∀ g, g ≤ q_cs g
  | 0 => Nat.zero_le _
  | g + 1 => by have := q_cs_ge g; have := (q_cs_s g).1; omega
theorem q_L.room {p : e_Sp} {I : e_I} {c : Nat × Nat} {a b n : Nat} (h : q_L p I c a b n) : c.1 ≤ a + n + 60000000 := by
  obtain ⟨h1, -, h3, g, h4, h5, -⟩ := h
  have h6 : q_cp p ≤ 60000000 := by
    rcases h1.2.2.2 with z | z
    · rw [h3 z.2]; omega
    · unfold q_cp; rw [if_pos z.1]; exact z.2.2.2
  have := q_cs_ge g
  omega
/-- is a pipe called, by the reckoning -/
def q_is (I : e_I) (q : Nat) : Int32 := bI (decide (0 < I f_m_counts q))
def q_stV (q : Nat) (v : Int32) (I : e_I) : e_I := s_up (if v = I f_m_isWanted q then I else s_up I f_m_since q (I f_m_tick 0)) f_m_isWanted q v
def q_stB (q : Nat) (z : Int32) (I : e_I) : e_I := q_stV q (bI (decide (z ≠ 0) || decide (s_up I f_m_isCalled q z f_m_isHeld q ≠ 0))) (s_up I f_m_isCalled q z)
def q_stK (q : Nat) (I : e_I) : e_I := if q_is I q ≠ I f_m_isCalled q ∧ I f_m_recording 0 = 114 then q_ka I (I f_l_size 4).toNatClampNeg (-1) (nI q) (q_is I q) else I
def q_stA (q : Nat) (I : e_I) : e_I := q_stB q (q_is I q) (q_stK q I)
def q_bT : List Nat := [f_m_isCalled, f_m_since, f_m_isWanted]
theorem s_eqN.qstB {q : Nat} {z : Int32} {I : e_I} : s_eqN q_bT I (q_stB q z I) := by
  unfold q_stB q_stV
  refine (s_eqN.up (by decide) : s_eqN q_bT I (s_up I f_m_isCalled q z)).trans (s_eqN.trans ?_ (s_eqN.up (by decide)))
  split
  · exact s_eqN.rfl'
  · exact s_eqN.up (by decide)
def q_aT : List Nat := q_bT ++ q_kT9
theorem q_stA_e (q : Nat) (I : e_I) : q_e q_aT I (q_stA q I) := by
  have h : q_e q_aT I (q_stK q I) := by
    unfold q_stK
    split
    · exact q_ka_e.mono (by decide)
    · exact q_e.rfl'
  exact h.trans (q_e.of s_eqN.qstB (by decide) (by decide))
def q_sis (I : e_I) (q : Nat) : Bool := q_bl I q && decide (0 < I f_m_winds (I f_mr_division (q_rk I q)).toNatClampNeg)
/-- a pipe speaks, or not -/
def q_sp (q : Nat) (a : e_I × e_Jt) : e_I × e_Jt := (s_up (s_up a.1 f_m_begun q (a.1 f_m_begun q + bI (q_sis a.1 q && decide (a.1 f_m_speaks q = 0)))) f_m_speaks q (bI (q_sis a.1 q)),
  s_up (s_up a.2 j_m_allBegun 0 (a.2 j_m_allBegun 0 + if (q_sis a.1 q && decide (a.1 f_m_speaks q = 0)) = true then 1 else 0)) j_m_ended 0 (s_up a.2 j_m_allBegun 0 (a.2 j_m_allBegun 0 + if (q_sis a.1 q && decide (a.1 f_m_speaks q = 0)) = true then 1 else 0) j_m_ended 0 + if (!q_sis a.1 q && decide (a.1 f_m_speaks q ≠ 0)) = true then 1 else 0))
theorem s_eqN.qsp (q : Nat) (a : e_I × e_Jt) : s_eqN [f_m_begun, f_m_speaks] a.1 (q_sp q a).1 := (s_eqN.up (by decide)).trans (s_eqN.up (by decide))
/-- what is done behind each act and at each tick -/
def q_st (nk nr np : Nat) (a : e_I × e_Jt) : e_I × e_Jt := s_run q_sp 0 np (q_bws nk np (s_run q_mv 0 np (s_run q_stA 0 np (q_rc nk nr np a.1))), a.2)
def q_sT : List Nat := [f_m_isRelay, f_m_counts, f_m_isOpen, f_m_closedSince, f_m_winds, f_m_begun, f_m_speaks] ++ q_aT
theorem q_e.run {T : List Nat} {f : Nat → e_I → e_I} (h : ∀ i I, q_e T I (f i I)) (n i : Nat) (I : e_I) : q_e T I (s_run f i n I) := s_run_ind (P := q_e T) (fun _ => q_e.rfl') (fun a b => a.trans b) h n i I
theorem q_st_e0 {nk nr np : Nat} {I : e_I} : q_e (q_sT.erase f_m_isRelay) (q_rc nk nr np I) (q_bws nk np (s_run q_mv 0 np (s_run q_stA 0 np (q_rc nk nr np I)))) := ((q_e.run (fun i I => (q_stA_e i I).mono (by decide)) _ _ _).trans (q_e.of (s_eqN.run s_eqN.qmv _ _ _) (by decide) (by decide))).trans (q_e.of s_eqN.qbws (by decide) (by decide))
theorem q_st_e {nk nr np : Nat} {a : e_I × e_Jt} : q_e q_sT a.1 (q_st nk nr np a).1 := ((q_e.of s_eqN.qrc (by decide) (by decide)).trans (q_st_e0.mono (by decide))).trans (q_e.of (s_eqN.runP s_eqN.qsp _ _ _) (by decide) (by decide))
theorem q_bo.st {nk nr np : Nat} {a : e_I × e_Jt} (h : q_bo a.1 f_m_isRelay) : q_bo (q_st nk nr np a).1 f_m_isRelay := by
  have h1 : q_bo (q_rc nk nr np a.1) f_m_isRelay := (h.rel.eqN (s_eqN.fill (T := [f_m_counts]) (by decide)) (by decide)).eqN (s_eqN.run s_eqN.qrcD _ _ _) (by decide)
  have h2 := h1.eqN (q_st_e0 (nk := nk) (nr := nr) (np := np) (I := a.1)).1 (by decide)
  exact h2.eqN (s_eqN.runP s_eqN.qsp _ _ _) (by decide)

set_option maxRecDepth 100000 in
set_option maxHeartbeats 400000 in
theorem lb_X16_settles {X : e_XT} {d : Nat} {p : e_Sp} {I : e_I} {J : e_Jt} {c : Nat × Nat} {w : e_Rw1} {Q : e_Rt → e_SS → Prop} (hp : s_ok p) {q : Nat} {z : Int32} {o3 : Option Value} (hq : q < 1280) (hz : z = 0 ∨ z = 1) (k : ∀ o2 o3, s_w X (d + 8) K_X16_settles 6 [some (.ref (p.1 T_MODEL 0)), some (.int (nI (q + 1))), o2, o3] [] (p, q_stB q z I, J, c, w) (fun r S' => e_rcr (none) r = true ∧ Q r S')) : s_w X (d + 8) K_X16_settles 70 [some (.ref (p.1 T_MODEL 0)), some (.int (nI q)), some (.int z), o3] [] (p, I, J, c, w) (fun r S' => e_rcr (none) r = true ∧ Q r S') := by
  refine w_op (pc' := 71) dX16_settles_70 rfl ?_
  refine t_getG0 (G := g_m_isCalled) dX16_settles_71 rfl rfl (by decide) rfl (fun _ => rfl) (hp.1 _ rfl) ?_
  refine w_op (pc' := 75) dX16_settles_74 rfl ?_
  refine w_op (pc' := 76) dX16_settles_75 rfl ?_
  refine t_bast0 (F := f_m_isCalled) dX16_settles_76 rfl (by decide) (by decide) rfl (hp.1 _ rfl) (show s_ix _ _ 1280 from s_ix.nI hq (by decide)) hq (by first | exact Or.inl rfl | exact Or.inr rfl | assumption) ?_
  refine w_op (pc' := 78) dX16_settles_77 rfl ?_
  refine w_ifne (t := 90) dX16_settles_78 (by decide) (fun c78 => ?_) (fun c78 => ?_)
  · refine w_iconst (v := 1) dX16_settles_90 rfl ?_
    refine w_goto (t := 95) dX16_settles_91 (by decide) ?_
    refine w_op (pc' := 96) (ll' := [_, _, _, _]) dX16_settles_95 rfl ?_
    refine w_op (pc' := 97) dX16_settles_96 rfl ?_
    refine w_op (pc' := 98) dX16_settles_97 rfl ?_
    refine t_getG0 (G := g_m_isWanted) dX16_settles_98 rfl rfl (by decide) rfl (fun _ => rfl) (hp.1 _ rfl) ?_
    refine w_op (pc' := 102) dX16_settles_101 rfl ?_
    refine t_bald0 (F := f_m_isWanted) dX16_settles_102 rfl (by decide) rfl (hp.1 _ rfl) (show s_ix _ _ 1280 from s_ix.nI hq (by decide)) hq ?_
    refine w_icmpeq (t := 116) dX16_settles_103 (by decide) (fun c103 => ?_) (fun c103 => ?_)
    · refine w_op (pc' := 117) dX16_settles_116 rfl ?_
      refine t_getG0 (G := g_m_isWanted) dX16_settles_117 rfl rfl (by decide) rfl (fun _ => rfl) (hp.1 _ rfl) ?_
      refine w_op (pc' := 121) dX16_settles_120 rfl ?_
      refine w_op (pc' := 122) dX16_settles_121 rfl ?_
      refine t_bast0 (F := f_m_isWanted) dX16_settles_122 rfl (by decide) (by decide) rfl (hp.1 _ rfl) (show s_ix _ _ 1280 from s_ix.nI hq (by decide)) hq (by first | exact Or.inl rfl | exact Or.inr rfl | assumption) ?_
      refine w_op (pc' := 126) (ll' := [_, _, _, _]) dX16_settles_123 rfl ?_
      refine w_goto (t := 6) dX16_settles_126 (by decide) ?_
      rw [show nI q + Int32.ofInt 1 = nI (q + 1) from nI_1 q]
      unfold q_stB q_stV at k
      rw [show bI (decide (z ≠ 0) || decide (s_up I f_m_isCalled q z f_m_isHeld q ≠ 0)) = 1 by grind, if_pos c103] at k
      exact k _ _
    · refine w_op (pc' := 107) dX16_settles_106 rfl ?_
      refine t_getG0 (G := g_m_since) dX16_settles_107 rfl rfl (by decide) rfl (fun _ => rfl) (hp.1 _ rfl) ?_
      refine w_op (pc' := 111) dX16_settles_110 rfl ?_
      refine w_op (pc' := 112) dX16_settles_111 rfl ?_
      refine t_getI (F := f_m_tick) dX16_settles_112 rfl rfl (by decide) rfl ⟨rfl, fun _ => rfl⟩ (hp.1 _ rfl) ?_
      refine t_iast0 (F := f_m_since) dX16_settles_115 rfl (by decide) (by decide) rfl (hp.1 _ rfl) (show s_ix _ _ 1280 from s_ix.nI hq (by decide)) hq ?_
      refine w_op (pc' := 117) dX16_settles_116 rfl ?_
      refine t_getG0 (G := g_m_isWanted) dX16_settles_117 rfl rfl (by decide) rfl (fun _ => rfl) (hp.1 _ rfl) ?_
      refine w_op (pc' := 121) dX16_settles_120 rfl ?_
      refine w_op (pc' := 122) dX16_settles_121 rfl ?_
      refine t_bast0 (F := f_m_isWanted) dX16_settles_122 rfl (by decide) (by decide) rfl (hp.1 _ rfl) (show s_ix _ _ 1280 from s_ix.nI hq (by decide)) hq (by first | exact Or.inl rfl | exact Or.inr rfl | assumption) ?_
      refine w_op (pc' := 126) (ll' := [_, _, _, _]) dX16_settles_123 rfl ?_
      refine w_goto (t := 6) dX16_settles_126 (by decide) ?_
      rw [show nI q + Int32.ofInt 1 = nI (q + 1) from nI_1 q]
      unfold q_stB q_stV at k
      rw [show bI (decide (z ≠ 0) || decide (s_up I f_m_isCalled q z f_m_isHeld q ≠ 0)) = 1 by grind, if_neg c103] at k
      exact k _ _
  · refine w_op (pc' := 82) dX16_settles_81 rfl ?_
    refine t_getG0 (G := g_m_isHeld) dX16_settles_82 rfl rfl (by decide) rfl (fun _ => rfl) (hp.1 _ rfl) ?_
    refine w_op (pc' := 86) dX16_settles_85 rfl ?_
    refine t_bald0 (F := f_m_isHeld) dX16_settles_86 rfl (by decide) rfl (hp.1 _ rfl) (show s_ix _ _ 1280 from s_ix.nI hq (by decide)) hq ?_
    refine w_ifeq (t := 94) dX16_settles_87 (by decide) (fun c87 => ?_) (fun c87 => ?_)
    · refine w_iconst (v := 0) dX16_settles_94 rfl ?_
      refine w_op (pc' := 96) (ll' := [_, _, _, _]) dX16_settles_95 rfl ?_
      refine w_op (pc' := 97) dX16_settles_96 rfl ?_
      refine w_op (pc' := 98) dX16_settles_97 rfl ?_
      refine t_getG0 (G := g_m_isWanted) dX16_settles_98 rfl rfl (by decide) rfl (fun _ => rfl) (hp.1 _ rfl) ?_
      refine w_op (pc' := 102) dX16_settles_101 rfl ?_
      refine t_bald0 (F := f_m_isWanted) dX16_settles_102 rfl (by decide) rfl (hp.1 _ rfl) (show s_ix _ _ 1280 from s_ix.nI hq (by decide)) hq ?_
      refine w_icmpeq (t := 116) dX16_settles_103 (by decide) (fun c103 => ?_) (fun c103 => ?_)
      · refine w_op (pc' := 117) dX16_settles_116 rfl ?_
        refine t_getG0 (G := g_m_isWanted) dX16_settles_117 rfl rfl (by decide) rfl (fun _ => rfl) (hp.1 _ rfl) ?_
        refine w_op (pc' := 121) dX16_settles_120 rfl ?_
        refine w_op (pc' := 122) dX16_settles_121 rfl ?_
        refine t_bast0 (F := f_m_isWanted) dX16_settles_122 rfl (by decide) (by decide) rfl (hp.1 _ rfl) (show s_ix _ _ 1280 from s_ix.nI hq (by decide)) hq (by first | exact Or.inl rfl | exact Or.inr rfl | assumption) ?_
        refine w_op (pc' := 126) (ll' := [_, _, _, _]) dX16_settles_123 rfl ?_
        refine w_goto (t := 6) dX16_settles_126 (by decide) ?_
        rw [show nI q + Int32.ofInt 1 = nI (q + 1) from nI_1 q]
        unfold q_stB q_stV at k
        rw [show bI (decide (z ≠ 0) || decide (s_up I f_m_isCalled q z f_m_isHeld q ≠ 0)) = 0 by grind, if_pos c103] at k
        exact k _ _
      · refine w_op (pc' := 107) dX16_settles_106 rfl ?_
        refine t_getG0 (G := g_m_since) dX16_settles_107 rfl rfl (by decide) rfl (fun _ => rfl) (hp.1 _ rfl) ?_
        refine w_op (pc' := 111) dX16_settles_110 rfl ?_
        refine w_op (pc' := 112) dX16_settles_111 rfl ?_
        refine t_getI (F := f_m_tick) dX16_settles_112 rfl rfl (by decide) rfl ⟨rfl, fun _ => rfl⟩ (hp.1 _ rfl) ?_
        refine t_iast0 (F := f_m_since) dX16_settles_115 rfl (by decide) (by decide) rfl (hp.1 _ rfl) (show s_ix _ _ 1280 from s_ix.nI hq (by decide)) hq ?_
        refine w_op (pc' := 117) dX16_settles_116 rfl ?_
        refine t_getG0 (G := g_m_isWanted) dX16_settles_117 rfl rfl (by decide) rfl (fun _ => rfl) (hp.1 _ rfl) ?_
        refine w_op (pc' := 121) dX16_settles_120 rfl ?_
        refine w_op (pc' := 122) dX16_settles_121 rfl ?_
        refine t_bast0 (F := f_m_isWanted) dX16_settles_122 rfl (by decide) (by decide) rfl (hp.1 _ rfl) (show s_ix _ _ 1280 from s_ix.nI hq (by decide)) hq (by first | exact Or.inl rfl | exact Or.inr rfl | assumption) ?_
        refine w_op (pc' := 126) (ll' := [_, _, _, _]) dX16_settles_123 rfl ?_
        refine w_goto (t := 6) dX16_settles_126 (by decide) ?_
        rw [show nI q + Int32.ofInt 1 = nI (q + 1) from nI_1 q]
        unfold q_stB q_stV at k
        rw [show bI (decide (z ≠ 0) || decide (s_up I f_m_isCalled q z f_m_isHeld q ≠ 0)) = 0 by grind, if_neg c103] at k
        exact k _ _
    · refine w_iconst (v := 1) dX16_settles_90 rfl ?_
      refine w_goto (t := 95) dX16_settles_91 (by decide) ?_
      refine w_op (pc' := 96) (ll' := [_, _, _, _]) dX16_settles_95 rfl ?_
      refine w_op (pc' := 97) dX16_settles_96 rfl ?_
      refine w_op (pc' := 98) dX16_settles_97 rfl ?_
      refine t_getG0 (G := g_m_isWanted) dX16_settles_98 rfl rfl (by decide) rfl (fun _ => rfl) (hp.1 _ rfl) ?_
      refine w_op (pc' := 102) dX16_settles_101 rfl ?_
      refine t_bald0 (F := f_m_isWanted) dX16_settles_102 rfl (by decide) rfl (hp.1 _ rfl) (show s_ix _ _ 1280 from s_ix.nI hq (by decide)) hq ?_
      refine w_icmpeq (t := 116) dX16_settles_103 (by decide) (fun c103 => ?_) (fun c103 => ?_)
      · refine w_op (pc' := 117) dX16_settles_116 rfl ?_
        refine t_getG0 (G := g_m_isWanted) dX16_settles_117 rfl rfl (by decide) rfl (fun _ => rfl) (hp.1 _ rfl) ?_
        refine w_op (pc' := 121) dX16_settles_120 rfl ?_
        refine w_op (pc' := 122) dX16_settles_121 rfl ?_
        refine t_bast0 (F := f_m_isWanted) dX16_settles_122 rfl (by decide) (by decide) rfl (hp.1 _ rfl) (show s_ix _ _ 1280 from s_ix.nI hq (by decide)) hq (by first | exact Or.inl rfl | exact Or.inr rfl | assumption) ?_
        refine w_op (pc' := 126) (ll' := [_, _, _, _]) dX16_settles_123 rfl ?_
        refine w_goto (t := 6) dX16_settles_126 (by decide) ?_
        rw [show nI q + Int32.ofInt 1 = nI (q + 1) from nI_1 q]
        unfold q_stB q_stV at k
        rw [show bI (decide (z ≠ 0) || decide (s_up I f_m_isCalled q z f_m_isHeld q ≠ 0)) = 1 by grind, if_pos c103] at k
        exact k _ _
      · refine w_op (pc' := 107) dX16_settles_106 rfl ?_
        refine t_getG0 (G := g_m_since) dX16_settles_107 rfl rfl (by decide) rfl (fun _ => rfl) (hp.1 _ rfl) ?_
        refine w_op (pc' := 111) dX16_settles_110 rfl ?_
        refine w_op (pc' := 112) dX16_settles_111 rfl ?_
        refine t_getI (F := f_m_tick) dX16_settles_112 rfl rfl (by decide) rfl ⟨rfl, fun _ => rfl⟩ (hp.1 _ rfl) ?_
        refine t_iast0 (F := f_m_since) dX16_settles_115 rfl (by decide) (by decide) rfl (hp.1 _ rfl) (show s_ix _ _ 1280 from s_ix.nI hq (by decide)) hq ?_
        refine w_op (pc' := 117) dX16_settles_116 rfl ?_
        refine t_getG0 (G := g_m_isWanted) dX16_settles_117 rfl rfl (by decide) rfl (fun _ => rfl) (hp.1 _ rfl) ?_
        refine w_op (pc' := 121) dX16_settles_120 rfl ?_
        refine w_op (pc' := 122) dX16_settles_121 rfl ?_
        refine t_bast0 (F := f_m_isWanted) dX16_settles_122 rfl (by decide) (by decide) rfl (hp.1 _ rfl) (show s_ix _ _ 1280 from s_ix.nI hq (by decide)) hq (by first | exact Or.inl rfl | exact Or.inr rfl | assumption) ?_
        refine w_op (pc' := 126) (ll' := [_, _, _, _]) dX16_settles_123 rfl ?_
        refine w_goto (t := 6) dX16_settles_126 (by decide) ?_
        rw [show nI q + Int32.ofInt 1 = nI (q + 1) from nI_1 q]
        unfold q_stB q_stV at k
        rw [show bI (decide (z ≠ 0) || decide (s_up I f_m_isCalled q z f_m_isHeld q ≠ 0)) = 1 by grind, if_neg c103] at k
        exact k _ _

set_option maxRecDepth 100000 in
set_option maxHeartbeats 800000 in
theorem la_X16_settles {X : e_XT} {d : Nat} {p : e_Sp} {I : e_I} {J : e_Jt} {c : Nat × Nat} {w : e_Rw1} {Q : e_Rt → e_SS → Prop} {nk nr np : Nat} (hM : q_D p I nk nr np) {R : e_I} {a b n0 : Nat} (hX : (X 8).1 = 0) (ha : a + n0 + 100000000 < 4294960000) (hn : n0 + 1280 < 39999999) (hk : ∀ p1 c1 n1 o1 o2 o3, q_X p p1 → q_e q_sT I R → q_L p1 R c1 a b n1 → n1 ≤ n0 + np → s_w X (d + 8) K_X16_settles 129 [some (.ref (p1.1 T_MODEL 0)), o1, o2, o3] [] (p1, R, J, c1, w) (fun r S' => e_rcr (none) r = true ∧ Q r S')) : ∀ (n : Nat) (i : Nat) (p1 : e_Sp) (I1 : e_I) (c1 : Nat × Nat) (n1 : Nat) (o2 o3 : Option Value), (h1 : i ≤ np) → (x1 : q_X p p1) → (e : q_e q_sT I I1) → (hL1 : q_L p1 I1 c1 a b n1) → (hn1 : n1 ≤ n0 + i) → (hr : s_run q_stA i (np - i) I1 = R) → (hn : np - i < n) → s_w X (d + 8) K_X16_settles 6 [some (.ref (p1.1 T_MODEL 0)), some (.int (nI i)), o2, o3] [] (p1, I1, J, c1, w) (fun r S' => e_rcr (none) r = true ∧ Q r S') := by
  intro n
  induction n with
  | zero =>
    intro i p1 I1 c1 n1 o2 o3 h1 x1 e hL1 hn1 hr hn
    exact absurd hn (Nat.not_lt_zero _)
  | succ n ih =>
    intro i p1 I1 c1 n1 o2 o3 h1 x1 e hL1 hn1 hr hn
    have hM1 := hM.e x1 e (by decide)
    have hp := hM1.1
    have hnp := hM1.2.2.2.1
    refine w_op (pc' := 7) dX16_settles_6 rfl ?_
    refine w_op (pc' := 8) dX16_settles_7 rfl ?_
    refine t_getI (F := f_m_pipes) dX16_settles_8 rfl rfl (by decide) rfl ⟨rfl, fun _ => rfl⟩ (hp.1 _ rfl) ?_
    rw [hnp.2]
    refine w_icmpge (t := 129) dX16_settles_11 (by decide) (fun c11 => ?_) (fun c11 => ?_)
    · obtain rfl : i = np := by have := (nI_leI (by omega) (by omega)).mp c11; omega
      rw [s_run_z (Nat.le_refl _)] at hr
      subst hr
      exact hk _ _ _ _ _ _ x1 e hL1 hn1
    · have hi : i < np := Nat.lt_of_not_le (fun z => c11 ((nI_leI (by omega) (by omega)).mpr z))
      refine w_op (pc' := 15) dX16_settles_14 rfl ?_
      refine t_getG0 (G := g_m_counts) dX16_settles_15 rfl rfl (by decide) rfl (fun _ => rfl) (hp.1 _ rfl) ?_
      refine w_op (pc' := 19) dX16_settles_18 rfl ?_
      refine t_iald0 (F := f_m_counts) dX16_settles_19 rfl (by decide) rfl (hp.1 _ rfl) (show s_ix _ _ 1280 from s_ix.nI (by omega) (by decide)) (show i < 1280 by omega) ?_
      refine w_ifle (t := 27) dX16_settles_20 (by decide) (fun c20 => ?_) (fun c20 => ?_)
      · refine w_iconst (v := 0) dX16_settles_27 rfl ?_
        refine w_op (pc' := 29) (ll' := [_, _, _, _]) dX16_settles_28 rfl ?_
        refine w_op (pc' := 30) dX16_settles_29 rfl ?_
        refine w_op (pc' := 31) dX16_settles_30 rfl ?_
        refine t_getG0 (G := g_m_isCalled) dX16_settles_31 rfl rfl (by decide) rfl (fun _ => rfl) (hp.1 _ rfl) ?_
        refine w_op (pc' := 35) dX16_settles_34 rfl ?_
        refine t_bald0 (F := f_m_isCalled) dX16_settles_35 rfl (by decide) rfl (hp.1 _ rfl) (show s_ix _ _ 1280 from s_ix.nI (by omega) (by decide)) (show i < 1280 by omega) ?_
        refine w_icmpeq (t := 70) dX16_settles_36 (by decide) (fun c36 => ?_) (fun c36 => ?_)
        · have ei : q_is I1 i = 0 := by unfold q_is; rw [decide_eq_false (Int32.not_lt.mpr c20)]; rfl
          have ek : q_stK i I1 = I1 := if_neg (fun u => u.1 (ei.trans c36))
          have ea : q_stA i I1 = q_stB i 0 I1 := by unfold q_stA; rw [ek, ei]
          rw [s_run_s hi] at hr
          have e9 := e.trans ((q_stA_e i I1).mono (by decide))
          rw [ea] at hr e9
          exact lb_X16_settles hp (by omega) (by decide) (fun o2 o3 => ih (i + 1) _ _ _ _ o2 o3 (by omega) x1 e9 (hL1.eq (congrFun (s_eqN.qstB _ (by decide)) 4)) (by omega) hr (by omega))
        · refine w_op (pc' := 40) dX16_settles_39 rfl ?_
          refine t_getI (F := f_m_recording) dX16_settles_40 rfl rfl (by decide) rfl ⟨rfl, fun _ => rfl⟩ (hp.1 _ rfl) ?_
          refine w_bipush (v := 114) dX16_settles_43 rfl ?_
          refine w_icmpne (t := 70) dX16_settles_45 (by decide) (fun c45 => ?_) (fun c45 => ?_)
          · have ei : q_is I1 i = 0 := by unfold q_is; rw [decide_eq_false (Int32.not_lt.mpr c20)]; rfl
            have ek : q_stK i I1 = I1 := if_neg (fun u => c45 u.2)
            have ea : q_stA i I1 = q_stB i 0 I1 := by unfold q_stA; rw [ek, ei]
            rw [s_run_s hi] at hr
            have e9 := e.trans ((q_stA_e i I1).mono (by decide))
            rw [ea] at hr e9
            exact lb_X16_settles hp (by omega) (by decide) (fun o2 o3 => ih (i + 1) _ _ _ _ o2 o3 (by omega) x1 e9 (hL1.eq (congrFun (s_eqN.qstB _ (by decide)) 4)) (by omega) hr (by omega))
          · have ei : q_is I1 i = 0 := by unfold q_is; rw [decide_eq_false (Int32.not_lt.mpr c20)]; rfl
            have ek : q_stK i I1 = q_ka I1 n1 (-1) (nI i) 0 := (if_pos ⟨fun u => c36 (ei.symm.trans u), c45⟩).trans (by rw [ei, hL1.n, nI_clamp (by omega)])
            have ea : q_stA i I1 = q_stB i 0 (q_ka I1 n1 (-1) (nI i) 0) := by unfold q_stA; rw [ek, ei]
            rw [s_run_s hi] at hr
            have e9 := e.trans ((q_stA_e i I1).mono (by decide))
            rw [ea] at hr e9
            have hroom := hL1.room
            refine lk_X16_settles (by decide) hp hL1 hX (by unfold e_xb; omega) (by omega) (fun p2 c2 x2 hL2 => ?_)
            have hp2 := (hM1.e x2 q_e.rfl' (T := []) (by decide)).1
            exact lb_X16_settles hp2 (by omega) (by decide) (fun o2 o3 => ih (i + 1) _ _ _ _ o2 o3 (by omega) (x1.trans x2) e9 (hL2.eq (congrFun (s_eqN.qstB _ (by decide)) 4)) (by omega) hr (by omega))
      · refine w_iconst (v := 1) dX16_settles_23 rfl ?_
        refine w_goto (t := 28) dX16_settles_24 (by decide) ?_
        refine w_op (pc' := 29) (ll' := [_, _, _, _]) dX16_settles_28 rfl ?_
        refine w_op (pc' := 30) dX16_settles_29 rfl ?_
        refine w_op (pc' := 31) dX16_settles_30 rfl ?_
        refine t_getG0 (G := g_m_isCalled) dX16_settles_31 rfl rfl (by decide) rfl (fun _ => rfl) (hp.1 _ rfl) ?_
        refine w_op (pc' := 35) dX16_settles_34 rfl ?_
        refine t_bald0 (F := f_m_isCalled) dX16_settles_35 rfl (by decide) rfl (hp.1 _ rfl) (show s_ix _ _ 1280 from s_ix.nI (by omega) (by decide)) (show i < 1280 by omega) ?_
        refine w_icmpeq (t := 70) dX16_settles_36 (by decide) (fun c36 => ?_) (fun c36 => ?_)
        · have ei : q_is I1 i = 1 := by unfold q_is; rw [decide_eq_true (Int32.not_le.mp c20)]; rfl
          have ek : q_stK i I1 = I1 := if_neg (fun u => u.1 (ei.trans c36))
          have ea : q_stA i I1 = q_stB i 1 I1 := by unfold q_stA; rw [ek, ei]
          rw [s_run_s hi] at hr
          have e9 := e.trans ((q_stA_e i I1).mono (by decide))
          rw [ea] at hr e9
          exact lb_X16_settles hp (by omega) (by decide) (fun o2 o3 => ih (i + 1) _ _ _ _ o2 o3 (by omega) x1 e9 (hL1.eq (congrFun (s_eqN.qstB _ (by decide)) 4)) (by omega) hr (by omega))
        · refine w_op (pc' := 40) dX16_settles_39 rfl ?_
          refine t_getI (F := f_m_recording) dX16_settles_40 rfl rfl (by decide) rfl ⟨rfl, fun _ => rfl⟩ (hp.1 _ rfl) ?_
          refine w_bipush (v := 114) dX16_settles_43 rfl ?_
          refine w_icmpne (t := 70) dX16_settles_45 (by decide) (fun c45 => ?_) (fun c45 => ?_)
          · have ei : q_is I1 i = 1 := by unfold q_is; rw [decide_eq_true (Int32.not_le.mp c20)]; rfl
            have ek : q_stK i I1 = I1 := if_neg (fun u => c45 u.2)
            have ea : q_stA i I1 = q_stB i 1 I1 := by unfold q_stA; rw [ek, ei]
            rw [s_run_s hi] at hr
            have e9 := e.trans ((q_stA_e i I1).mono (by decide))
            rw [ea] at hr e9
            exact lb_X16_settles hp (by omega) (by decide) (fun o2 o3 => ih (i + 1) _ _ _ _ o2 o3 (by omega) x1 e9 (hL1.eq (congrFun (s_eqN.qstB _ (by decide)) 4)) (by omega) hr (by omega))
          · have ei : q_is I1 i = 1 := by unfold q_is; rw [decide_eq_true (Int32.not_le.mp c20)]; rfl
            have ek : q_stK i I1 = q_ka I1 n1 (-1) (nI i) 1 := (if_pos ⟨fun u => c36 (ei.symm.trans u), c45⟩).trans (by rw [ei, hL1.n, nI_clamp (by omega)])
            have ea : q_stA i I1 = q_stB i 1 (q_ka I1 n1 (-1) (nI i) 1) := by unfold q_stA; rw [ek, ei]
            rw [s_run_s hi] at hr
            have e9 := e.trans ((q_stA_e i I1).mono (by decide))
            rw [ea] at hr e9
            have hroom := hL1.room
            refine lk_X16_settles (by decide) hp hL1 hX (by unfold e_xb; omega) (by omega) (fun p2 c2 x2 hL2 => ?_)
            have hp2 := (hM1.e x2 q_e.rfl' (T := []) (by decide)).1
            exact lb_X16_settles hp2 (by omega) (by decide) (fun o2 o3 => ih (i + 1) _ _ _ _ o2 o3 (by omega) (x1.trans x2) e9 (hL2.eq (congrFun (s_eqN.qstB _ (by decide)) 4)) (by omega) hr (by omega))
set_option maxRecDepth 100000 in
set_option maxHeartbeats 800000 in
theorem lm_X16_settles {X : e_XT} {d : Nat} {p : e_Sp} {I : e_I} {J : e_Jt} {c : Nat × Nat} {w : e_Rw1} {Q : e_Rt → e_SS → Prop} {nk nr np : Nat} (hM : q_D p I nk nr np) {R : e_I} (hk : ∀ o1 o2 o3, s_w X (d + 8) K_X16_settles 150 [some (.ref (p.1 T_MODEL 0)), o1, o2, o3] [] (p, R, J, c, w) (fun r S' => e_rcr (none) r = true ∧ Q r S')) : ∀ (n : Nat) (i : Nat) (I1 : e_I) (o2 o3 : Option Value), (h1 : i ≤ np) → (e : s_eqN [f_m_isOpen, f_m_closedSince] I I1) → (hr : s_run q_mv i (np - i) I1 = R) → (hn : np - i < n) → s_w X (d + 8) K_X16_settles 131 [some (.ref (p.1 T_MODEL 0)), some (.int (nI i)), o2, o3] [] (p, I1, J, c, w) (fun r S' => e_rcr (none) r = true ∧ Q r S') := by
  intro n
  induction n with
  | zero =>
    intro i I1 o2 o3 h1 e hr hn
    exact absurd hn (Nat.not_lt_zero _)
  | succ n ih =>
    intro i I1 o2 o3 h1 e hr hn
    have hM1 := hM.eqN e (by decide)
    have hp := hM1.1
    have hnp := hM1.2.2.2.1
    refine w_op (pc' := 132) dX16_settles_131 rfl ?_
    refine w_op (pc' := 133) dX16_settles_132 rfl ?_
    refine t_getI (F := f_m_pipes) dX16_settles_133 rfl rfl (by decide) rfl ⟨rfl, fun _ => rfl⟩ (hp.1 _ rfl) ?_
    rw [hnp.2]
    refine w_icmpge (t := 150) dX16_settles_136 (by decide) (fun c136 => ?_) (fun c136 => ?_)
    · have hi := (nI_leI (by omega) (by omega)).mp c136
      rw [s_run_z hi] at hr; subst hr
      exact hk _ _ _
    · have hi : i < np := Nat.lt_of_not_le (fun z => c136 ((nI_leI (by omega) (by omega)).mpr z))
      refine w_op (pc' := 140) dX16_settles_139 rfl ?_
      refine w_op (pc' := 141) dX16_settles_140 rfl ?_
      refine t_callV (t := T_MODEL) (As := [_]) dX16_settles_141 rfl rM_X16_moves (by decide) rfl rfl (by decide) (by decide) (Nat.le_of_ble_eq_true rfl) rfl (hp.1 _ rfl) (c_X16_moves hM1 hi ?_)
      show s_w _ _ _ 144 _ _ _ _
      refine w_op (pc' := 147) (ll' := [_, _, _, _]) dX16_settles_144 rfl ?_
      refine w_goto (t := 131) dX16_settles_147 (by decide) ?_
      rw [show nI i + Int32.ofInt 1 = nI (i + 1) from nI_1 i]
      rw [s_run_s hi] at hr
      exact ih (i + 1) _ _ _ (by omega) (e.trans (s_eqN.qmv i I1)) hr (by omega)
set_option maxRecDepth 100000 in
set_option maxHeartbeats 800000 in
theorem lc_X16_settles {X : e_XT} {d : Nat} {p : e_Sp} {I : e_I} {J : e_Jt} {c : Nat × Nat} {w : e_Rw1} {Q : e_Rt → e_SS → Prop} {nk nr np : Nat} (hM : q_D p I nk nr np) {R : e_I × e_Jt} (k : Q (.inl none) (p, R.1, R.2, c, w)) : ∀ (n : Nat) (i : Nat) (I1 : e_I) (J1 : e_Jt) (o2 o3 : Option Value), (h1 : i ≤ np) → (e : s_eqN [f_m_begun, f_m_speaks] I I1) → (hr : s_run q_sp i (np - i) (I1, J1) = R) → (hn : np - i < n) → s_w X (d + 8) K_X16_settles 156 [some (.ref (p.1 T_MODEL 0)), some (.int (nI i)), o2, o3] [] (p, I1, J1, c, w) (fun r S' => e_rcr (none) r = true ∧ Q r S') := by
  intro n
  induction n with
  | zero =>
    intro i I1 J1 o2 o3 h1 e hr hn
    exact absurd hn (Nat.not_lt_zero _)
  | succ n ih =>
    intro i I1 J1 o2 o3 h1 e hr hn
    have hM1 := hM.eqN e (by decide)
    have hp := hM1.1
    have hr10 := hM1.2.2.1
    have hnp := hM1.2.2.2.1
    refine w_op (pc' := 157) dX16_settles_156 rfl ?_
    refine w_op (pc' := 158) dX16_settles_157 rfl ?_
    refine t_getI (F := f_m_pipes) dX16_settles_158 rfl rfl (by decide) rfl ⟨rfl, fun _ => rfl⟩ (hp.1 _ rfl) ?_
    rw [hnp.2]
    refine w_icmpge (t := 299) dX16_settles_161 (by decide) (fun c161 => ?_) (fun c161 => ?_)
    · have hi := (nI_leI (by omega) (by omega)).mp c161
      rw [s_run_z hi] at hr
      exact w_return dX16_settles_299 ⟨rfl, by subst hr; exact k⟩
    · have hi : i < np := Nat.lt_of_not_le (fun z => c161 ((nI_leI (by omega) (by omega)).mpr z))
      obtain ⟨r, b, hr2, er, -⟩ := hM1.2.2.2.2.2.2 i hi
      have erk : q_rk I1 i = r := by unfold q_rk; rw [er, nI_clamp (by omega)]
      have hv := (hM1.2.2.2.2.2.1 r hr2).1
      obtain ⟨-, lo, nn, bb, dv, -, -, -, edv, -, -, hdv⟩ := hM1.2.2.2.2.2.1 r hr2
      have hix : s_ix (I1 f_mr_division r) dv 3 := by rw [edv]; exact s_ix.nI hdv (by decide)
      have ew : I1 f_m_winds dv = I1 f_m_winds (I1 f_mr_division (q_rk I1 i)).toNatClampNeg := by rw [erk, edv, nI_clamp (by omega)]
      refine w_op (pc' := 165) dX16_settles_164 rfl ?_
      refine w_op (pc' := 166) dX16_settles_165 rfl ?_
      refine t_callV (t := T_MODEL) (As := [_]) dX16_settles_166 rfl rM_X16_isBlown (by decide) rfl rfl (by decide) (by decide) (Nat.le_of_ble_eq_true rfl) rfl (hp.1 _ rfl) (c_X16_isBlown hp (show i < 1280 by omega) ?_)
      show s_w _ _ _ 169 _ _ _ _
      refine w_ifeq (t := 203) dX16_settles_169 (by decide) (fun c169 => ?_) (fun c169 => ?_)
      · refine w_iconst (v := 0) dX16_settles_203 rfl ?_
        refine w_op (pc' := 205) (ll' := [_, _, _, _]) dX16_settles_204 rfl ?_
        refine w_op (pc' := 206) dX16_settles_205 rfl ?_
        refine t_getG0 (G := g_m_begun) dX16_settles_206 rfl rfl (by decide) rfl (fun _ => rfl) (hp.1 _ rfl) ?_
        refine w_op (pc' := 210) dX16_settles_209 rfl ?_
        refine w_op (pc' := 211) dX16_settles_210 rfl ?_
        refine t_iald0 (F := f_m_begun) dX16_settles_211 rfl (by decide) rfl (hp.1 _ rfl) (show s_ix _ _ 1280 from s_ix.nI (by omega) (by decide)) (show i < 1280 by omega) ?_
        refine w_op (pc' := 213) dX16_settles_212 rfl ?_
        refine w_ifeq (t := 229) dX16_settles_213 (by decide) (fun c213 => ?_) (fun c213 => ?_)
        · refine w_iconst (v := 0) dX16_settles_229 rfl ?_
          refine w_op (pc' := 231) dX16_settles_230 rfl ?_
          refine t_iast0 (F := f_m_begun) dX16_settles_231 rfl (by decide) (by decide) rfl (hp.1 _ rfl) (show s_ix _ _ 1280 from s_ix.nI (by omega) (by decide)) (show i < 1280 by omega) ?_
          refine w_op (pc' := 233) dX16_settles_232 rfl ?_
          refine w_op (pc' := 234) dX16_settles_233 rfl ?_
          refine t_getJ (F := j_m_allBegun) dX16_settles_234 rfl rfl (by decide) rfl (fun _ => rfl) (hp.1 _ rfl) ?_
          refine w_op (pc' := 238) dX16_settles_237 rfl ?_
          refine w_ifeq (t := 254) dX16_settles_238 (by decide) (fun c238 => ?_) (fun c238 => ?_)
          · refine w_op (pc' := 255) dX16_settles_254 rfl ?_
            refine w_op (pc' := 256) dX16_settles_255 rfl ?_
            refine t_putJ (F := j_m_allBegun) dX16_settles_256 rfl rfl (by decide) rfl rfl (Or.inl rfl) (hp.1 _ rfl) ?_
            refine w_op (pc' := 260) dX16_settles_259 rfl ?_
            refine w_op (pc' := 261) dX16_settles_260 rfl ?_
            refine t_getJ (F := j_m_ended) dX16_settles_261 rfl rfl (by decide) rfl (fun _ => rfl) (hp.1 _ rfl) ?_
            refine w_op (pc' := 265) dX16_settles_264 rfl ?_
            refine w_ifne (t := 281) dX16_settles_265 (by decide) (fun c265 => ?_) (fun c265 => ?_)
            · exact absurd c265 (by decide)
            · refine w_op (pc' := 269) dX16_settles_268 rfl ?_
              refine t_getG0 (G := g_m_speaks) dX16_settles_269 rfl rfl (by decide) rfl (fun _ => rfl) (hp.1 _ rfl) ?_
              refine w_op (pc' := 273) dX16_settles_272 rfl ?_
              refine t_bald0 (F := f_m_speaks) dX16_settles_273 rfl (by decide) rfl (hp.1 _ rfl) (show s_ix _ _ 1280 from s_ix.nI (by omega) (by decide)) (show i < 1280 by omega) ?_
              refine w_ifeq (t := 281) dX16_settles_274 (by decide) (fun c274 => ?_) (fun c274 => ?_)
              · refine w_op (pc' := 282) dX16_settles_281 rfl ?_
                refine w_op (pc' := 283) dX16_settles_282 rfl ?_
                refine t_putJ (F := j_m_ended) dX16_settles_283 rfl rfl (by decide) rfl rfl (Or.inl rfl) (hp.1 _ rfl) ?_
                refine w_op (pc' := 287) dX16_settles_286 rfl ?_
                refine t_getG0 (G := g_m_speaks) dX16_settles_287 rfl rfl (by decide) rfl (fun _ => rfl) (hp.1 _ rfl) ?_
                refine w_op (pc' := 291) dX16_settles_290 rfl ?_
                refine w_op (pc' := 292) dX16_settles_291 rfl ?_
                refine t_bast0 (F := f_m_speaks) dX16_settles_292 rfl (by decide) (by decide) rfl (hp.1 _ rfl) (show s_ix _ _ 1280 from s_ix.nI (by omega) (by decide)) (show i < 1280 by omega) (by first | exact Or.inl rfl | exact Or.inr rfl | assumption) ?_
                refine w_op (pc' := 296) (ll' := [_, _, _, _]) dX16_settles_293 rfl ?_
                refine w_goto (t := 156) dX16_settles_296 (by decide) ?_
                have es : q_sis I1 i = false := by unfold q_sis; rw [bI_0.mp c169]; rfl
                have e2 : decide (I1 f_m_speaks i = 0) = true := decide_eq_true (by rw [← show s_up I1 f_m_begun i (I1 f_m_begun i + 0) f_m_speaks i = I1 f_m_speaks i from s_up_n (by decide)]; exact c274)
                have e3 : decide (I1 f_m_speaks i ≠ 0) = !decide (I1 f_m_speaks i = 0) := by by_cases z : I1 f_m_speaks i = 0 <;> simp [z]
                rw [e2] at e3
                rw [show nI i + Int32.ofInt 1 = nI (i + 1) from nI_1 i]
                rw [s_run_s hi] at hr
                unfold q_sp at hr
                simp only [es, e2, e3] at hr
                exact ih (i + 1) _ _ _ _ (by omega) (e.trans ((s_eqN.up (by decide)).trans (s_eqN.up (by decide)))) hr (by omega)
              · refine w_op (pc' := 278) dX16_settles_277 rfl ?_
                refine w_goto (t := 282) dX16_settles_278 (by decide) ?_
                refine w_op (pc' := 283) dX16_settles_282 rfl ?_
                refine t_putJ (F := j_m_ended) dX16_settles_283 rfl rfl (by decide) rfl rfl (Or.inl rfl) (hp.1 _ rfl) ?_
                refine w_op (pc' := 287) dX16_settles_286 rfl ?_
                refine t_getG0 (G := g_m_speaks) dX16_settles_287 rfl rfl (by decide) rfl (fun _ => rfl) (hp.1 _ rfl) ?_
                refine w_op (pc' := 291) dX16_settles_290 rfl ?_
                refine w_op (pc' := 292) dX16_settles_291 rfl ?_
                refine t_bast0 (F := f_m_speaks) dX16_settles_292 rfl (by decide) (by decide) rfl (hp.1 _ rfl) (show s_ix _ _ 1280 from s_ix.nI (by omega) (by decide)) (show i < 1280 by omega) (by first | exact Or.inl rfl | exact Or.inr rfl | assumption) ?_
                refine w_op (pc' := 296) (ll' := [_, _, _, _]) dX16_settles_293 rfl ?_
                refine w_goto (t := 156) dX16_settles_296 (by decide) ?_
                have es : q_sis I1 i = false := by unfold q_sis; rw [bI_0.mp c169]; rfl
                have e2 : decide (I1 f_m_speaks i = 0) = false := decide_eq_false (by rw [← show s_up I1 f_m_begun i (I1 f_m_begun i + 0) f_m_speaks i = I1 f_m_speaks i from s_up_n (by decide)]; exact c274)
                have e3 : decide (I1 f_m_speaks i ≠ 0) = !decide (I1 f_m_speaks i = 0) := by by_cases z : I1 f_m_speaks i = 0 <;> simp [z]
                rw [e2] at e3
                rw [show nI i + Int32.ofInt 1 = nI (i + 1) from nI_1 i]
                rw [s_run_s hi] at hr
                unfold q_sp at hr
                simp only [es, e2, e3] at hr
                exact ih (i + 1) _ _ _ _ (by omega) (e.trans ((s_eqN.up (by decide)).trans (s_eqN.up (by decide)))) hr (by omega)
          · exact absurd c238 (by decide)
        · exact absurd c213 (by decide)
      · refine w_op (pc' := 173) dX16_settles_172 rfl ?_
        refine t_getG0 (G := g_m_winds) dX16_settles_173 rfl rfl (by decide) rfl (fun _ => rfl) (hp.1 _ rfl) ?_
        refine w_op (pc' := 177) dX16_settles_176 rfl ?_
        refine t_getG0 (G := g_m_list0) dX16_settles_177 rfl rfl (by decide) rfl (fun _ => rfl) (hp.1 _ rfl) ?_
        refine w_op (pc' := 181) dX16_settles_180 rfl ?_
        refine t_getG0 (G := g_m_rankOf) dX16_settles_181 rfl rfl (by decide) rfl (fun _ => rfl) (hp.1 _ rfl) ?_
        refine w_op (pc' := 185) dX16_settles_184 rfl ?_
        refine t_iald0 (F := f_m_rankOf) dX16_settles_185 rfl (by decide) rfl (hp.1 _ rfl) (show s_ix _ _ 1280 from s_ix.nI (by omega) (by decide)) (show i < 1280 by omega) ?_
        rw [er]
        refine t_callV (t := T_LIST) (As := [_]) dX16_settles_186 rfl rM_Jx4a65c_get_915e3 (by decide) rfl rfl (by decide) (by decide) (Nat.le_of_ble_eq_true rfl) rfl (hp.2 _ (by decide)) (c_get2 hp hr10.2 (by omega) hr2 ?_)
        show s_w _ _ _ 189 _ _ _ _
        refine t_chk dX16_settles_189 rfl rfl (by decide) (by assumption) ?_
        refine t_getI (F := f_mr_division) dX16_settles_192 rfl rfl (by decide) rfl ⟨rfl, fun _ => rfl⟩ (by assumption) ?_
        refine t_iald0 (F := f_m_winds) dX16_settles_195 rfl (by decide) rfl (hp.1 _ rfl) hix hix.2.2 ?_
        refine w_ifle (t := 203) dX16_settles_196 (by decide) (fun c196 => ?_) (fun c196 => ?_)
        · refine w_iconst (v := 0) dX16_settles_203 rfl ?_
          refine w_op (pc' := 205) (ll' := [_, _, _, _]) dX16_settles_204 rfl ?_
          refine w_op (pc' := 206) dX16_settles_205 rfl ?_
          refine t_getG0 (G := g_m_begun) dX16_settles_206 rfl rfl (by decide) rfl (fun _ => rfl) (hp.1 _ rfl) ?_
          refine w_op (pc' := 210) dX16_settles_209 rfl ?_
          refine w_op (pc' := 211) dX16_settles_210 rfl ?_
          refine t_iald0 (F := f_m_begun) dX16_settles_211 rfl (by decide) rfl (hp.1 _ rfl) (show s_ix _ _ 1280 from s_ix.nI (by omega) (by decide)) (show i < 1280 by omega) ?_
          refine w_op (pc' := 213) dX16_settles_212 rfl ?_
          refine w_ifeq (t := 229) dX16_settles_213 (by decide) (fun c213 => ?_) (fun c213 => ?_)
          · refine w_iconst (v := 0) dX16_settles_229 rfl ?_
            refine w_op (pc' := 231) dX16_settles_230 rfl ?_
            refine t_iast0 (F := f_m_begun) dX16_settles_231 rfl (by decide) (by decide) rfl (hp.1 _ rfl) (show s_ix _ _ 1280 from s_ix.nI (by omega) (by decide)) (show i < 1280 by omega) ?_
            refine w_op (pc' := 233) dX16_settles_232 rfl ?_
            refine w_op (pc' := 234) dX16_settles_233 rfl ?_
            refine t_getJ (F := j_m_allBegun) dX16_settles_234 rfl rfl (by decide) rfl (fun _ => rfl) (hp.1 _ rfl) ?_
            refine w_op (pc' := 238) dX16_settles_237 rfl ?_
            refine w_ifeq (t := 254) dX16_settles_238 (by decide) (fun c238 => ?_) (fun c238 => ?_)
            · refine w_op (pc' := 255) dX16_settles_254 rfl ?_
              refine w_op (pc' := 256) dX16_settles_255 rfl ?_
              refine t_putJ (F := j_m_allBegun) dX16_settles_256 rfl rfl (by decide) rfl rfl (Or.inl rfl) (hp.1 _ rfl) ?_
              refine w_op (pc' := 260) dX16_settles_259 rfl ?_
              refine w_op (pc' := 261) dX16_settles_260 rfl ?_
              refine t_getJ (F := j_m_ended) dX16_settles_261 rfl rfl (by decide) rfl (fun _ => rfl) (hp.1 _ rfl) ?_
              refine w_op (pc' := 265) dX16_settles_264 rfl ?_
              refine w_ifne (t := 281) dX16_settles_265 (by decide) (fun c265 => ?_) (fun c265 => ?_)
              · exact absurd c265 (by decide)
              · refine w_op (pc' := 269) dX16_settles_268 rfl ?_
                refine t_getG0 (G := g_m_speaks) dX16_settles_269 rfl rfl (by decide) rfl (fun _ => rfl) (hp.1 _ rfl) ?_
                refine w_op (pc' := 273) dX16_settles_272 rfl ?_
                refine t_bald0 (F := f_m_speaks) dX16_settles_273 rfl (by decide) rfl (hp.1 _ rfl) (show s_ix _ _ 1280 from s_ix.nI (by omega) (by decide)) (show i < 1280 by omega) ?_
                refine w_ifeq (t := 281) dX16_settles_274 (by decide) (fun c274 => ?_) (fun c274 => ?_)
                · refine w_op (pc' := 282) dX16_settles_281 rfl ?_
                  refine w_op (pc' := 283) dX16_settles_282 rfl ?_
                  refine t_putJ (F := j_m_ended) dX16_settles_283 rfl rfl (by decide) rfl rfl (Or.inl rfl) (hp.1 _ rfl) ?_
                  refine w_op (pc' := 287) dX16_settles_286 rfl ?_
                  refine t_getG0 (G := g_m_speaks) dX16_settles_287 rfl rfl (by decide) rfl (fun _ => rfl) (hp.1 _ rfl) ?_
                  refine w_op (pc' := 291) dX16_settles_290 rfl ?_
                  refine w_op (pc' := 292) dX16_settles_291 rfl ?_
                  refine t_bast0 (F := f_m_speaks) dX16_settles_292 rfl (by decide) (by decide) rfl (hp.1 _ rfl) (show s_ix _ _ 1280 from s_ix.nI (by omega) (by decide)) (show i < 1280 by omega) (by first | exact Or.inl rfl | exact Or.inr rfl | assumption) ?_
                  refine w_op (pc' := 296) (ll' := [_, _, _, _]) dX16_settles_293 rfl ?_
                  refine w_goto (t := 156) dX16_settles_296 (by decide) ?_
                  have es : q_sis I1 i = false := by unfold q_sis; rw [decide_eq_false (show ¬ 0 < I1 f_m_winds (I1 f_mr_division (q_rk I1 i)).toNatClampNeg from ew ▸ Int32.not_lt.mpr c196), Bool.and_false]
                  have e2 : decide (I1 f_m_speaks i = 0) = true := decide_eq_true (by rw [← show s_up I1 f_m_begun i (I1 f_m_begun i + 0) f_m_speaks i = I1 f_m_speaks i from s_up_n (by decide)]; exact c274)
                  have e3 : decide (I1 f_m_speaks i ≠ 0) = !decide (I1 f_m_speaks i = 0) := by by_cases z : I1 f_m_speaks i = 0 <;> simp [z]
                  rw [e2] at e3
                  rw [show nI i + Int32.ofInt 1 = nI (i + 1) from nI_1 i]
                  rw [s_run_s hi] at hr
                  unfold q_sp at hr
                  simp only [es, e2, e3] at hr
                  exact ih (i + 1) _ _ _ _ (by omega) (e.trans ((s_eqN.up (by decide)).trans (s_eqN.up (by decide)))) hr (by omega)
                · refine w_op (pc' := 278) dX16_settles_277 rfl ?_
                  refine w_goto (t := 282) dX16_settles_278 (by decide) ?_
                  refine w_op (pc' := 283) dX16_settles_282 rfl ?_
                  refine t_putJ (F := j_m_ended) dX16_settles_283 rfl rfl (by decide) rfl rfl (Or.inl rfl) (hp.1 _ rfl) ?_
                  refine w_op (pc' := 287) dX16_settles_286 rfl ?_
                  refine t_getG0 (G := g_m_speaks) dX16_settles_287 rfl rfl (by decide) rfl (fun _ => rfl) (hp.1 _ rfl) ?_
                  refine w_op (pc' := 291) dX16_settles_290 rfl ?_
                  refine w_op (pc' := 292) dX16_settles_291 rfl ?_
                  refine t_bast0 (F := f_m_speaks) dX16_settles_292 rfl (by decide) (by decide) rfl (hp.1 _ rfl) (show s_ix _ _ 1280 from s_ix.nI (by omega) (by decide)) (show i < 1280 by omega) (by first | exact Or.inl rfl | exact Or.inr rfl | assumption) ?_
                  refine w_op (pc' := 296) (ll' := [_, _, _, _]) dX16_settles_293 rfl ?_
                  refine w_goto (t := 156) dX16_settles_296 (by decide) ?_
                  have es : q_sis I1 i = false := by unfold q_sis; rw [decide_eq_false (show ¬ 0 < I1 f_m_winds (I1 f_mr_division (q_rk I1 i)).toNatClampNeg from ew ▸ Int32.not_lt.mpr c196), Bool.and_false]
                  have e2 : decide (I1 f_m_speaks i = 0) = false := decide_eq_false (by rw [← show s_up I1 f_m_begun i (I1 f_m_begun i + 0) f_m_speaks i = I1 f_m_speaks i from s_up_n (by decide)]; exact c274)
                  have e3 : decide (I1 f_m_speaks i ≠ 0) = !decide (I1 f_m_speaks i = 0) := by by_cases z : I1 f_m_speaks i = 0 <;> simp [z]
                  rw [e2] at e3
                  rw [show nI i + Int32.ofInt 1 = nI (i + 1) from nI_1 i]
                  rw [s_run_s hi] at hr
                  unfold q_sp at hr
                  simp only [es, e2, e3] at hr
                  exact ih (i + 1) _ _ _ _ (by omega) (e.trans ((s_eqN.up (by decide)).trans (s_eqN.up (by decide)))) hr (by omega)
            · exact absurd c238 (by decide)
          · exact absurd c213 (by decide)
        · refine w_iconst (v := 1) dX16_settles_199 rfl ?_
          refine w_goto (t := 204) dX16_settles_200 (by decide) ?_
          refine w_op (pc' := 205) (ll' := [_, _, _, _]) dX16_settles_204 rfl ?_
          refine w_op (pc' := 206) dX16_settles_205 rfl ?_
          refine t_getG0 (G := g_m_begun) dX16_settles_206 rfl rfl (by decide) rfl (fun _ => rfl) (hp.1 _ rfl) ?_
          refine w_op (pc' := 210) dX16_settles_209 rfl ?_
          refine w_op (pc' := 211) dX16_settles_210 rfl ?_
          refine t_iald0 (F := f_m_begun) dX16_settles_211 rfl (by decide) rfl (hp.1 _ rfl) (show s_ix _ _ 1280 from s_ix.nI (by omega) (by decide)) (show i < 1280 by omega) ?_
          refine w_op (pc' := 213) dX16_settles_212 rfl ?_
          refine w_ifeq (t := 229) dX16_settles_213 (by decide) (fun c213 => ?_) (fun c213 => ?_)
          · exact absurd c213 (by decide)
          · refine w_op (pc' := 217) dX16_settles_216 rfl ?_
            refine t_getG0 (G := g_m_speaks) dX16_settles_217 rfl rfl (by decide) rfl (fun _ => rfl) (hp.1 _ rfl) ?_
            refine w_op (pc' := 221) dX16_settles_220 rfl ?_
            refine t_bald0 (F := f_m_speaks) dX16_settles_221 rfl (by decide) rfl (hp.1 _ rfl) (show s_ix _ _ 1280 from s_ix.nI (by omega) (by decide)) (show i < 1280 by omega) ?_
            refine w_ifne (t := 229) dX16_settles_222 (by decide) (fun c222 => ?_) (fun c222 => ?_)
            · refine w_iconst (v := 0) dX16_settles_229 rfl ?_
              refine w_op (pc' := 231) dX16_settles_230 rfl ?_
              refine t_iast0 (F := f_m_begun) dX16_settles_231 rfl (by decide) (by decide) rfl (hp.1 _ rfl) (show s_ix _ _ 1280 from s_ix.nI (by omega) (by decide)) (show i < 1280 by omega) ?_
              refine w_op (pc' := 233) dX16_settles_232 rfl ?_
              refine w_op (pc' := 234) dX16_settles_233 rfl ?_
              refine t_getJ (F := j_m_allBegun) dX16_settles_234 rfl rfl (by decide) rfl (fun _ => rfl) (hp.1 _ rfl) ?_
              refine w_op (pc' := 238) dX16_settles_237 rfl ?_
              refine w_ifeq (t := 254) dX16_settles_238 (by decide) (fun c238 => ?_) (fun c238 => ?_)
              · exact absurd c238 (by decide)
              · refine w_op (pc' := 242) dX16_settles_241 rfl ?_
                refine t_getG0 (G := g_m_speaks) dX16_settles_242 rfl rfl (by decide) rfl (fun _ => rfl) (hp.1 _ rfl) ?_
                refine w_op (pc' := 246) dX16_settles_245 rfl ?_
                refine t_bald0 (F := f_m_speaks) dX16_settles_246 rfl (by decide) rfl (hp.1 _ rfl) (show s_ix _ _ 1280 from s_ix.nI (by omega) (by decide)) (show i < 1280 by omega) ?_
                refine w_ifne (t := 254) dX16_settles_247 (by decide) (fun c247 => ?_) (fun c247 => ?_)
                · refine w_op (pc' := 255) dX16_settles_254 rfl ?_
                  refine w_op (pc' := 256) dX16_settles_255 rfl ?_
                  refine t_putJ (F := j_m_allBegun) dX16_settles_256 rfl rfl (by decide) rfl rfl (Or.inl rfl) (hp.1 _ rfl) ?_
                  refine w_op (pc' := 260) dX16_settles_259 rfl ?_
                  refine w_op (pc' := 261) dX16_settles_260 rfl ?_
                  refine t_getJ (F := j_m_ended) dX16_settles_261 rfl rfl (by decide) rfl (fun _ => rfl) (hp.1 _ rfl) ?_
                  refine w_op (pc' := 265) dX16_settles_264 rfl ?_
                  refine w_ifne (t := 281) dX16_settles_265 (by decide) (fun c265 => ?_) (fun c265 => ?_)
                  · refine w_op (pc' := 282) dX16_settles_281 rfl ?_
                    refine w_op (pc' := 283) dX16_settles_282 rfl ?_
                    refine t_putJ (F := j_m_ended) dX16_settles_283 rfl rfl (by decide) rfl rfl (Or.inl rfl) (hp.1 _ rfl) ?_
                    refine w_op (pc' := 287) dX16_settles_286 rfl ?_
                    refine t_getG0 (G := g_m_speaks) dX16_settles_287 rfl rfl (by decide) rfl (fun _ => rfl) (hp.1 _ rfl) ?_
                    refine w_op (pc' := 291) dX16_settles_290 rfl ?_
                    refine w_op (pc' := 292) dX16_settles_291 rfl ?_
                    refine t_bast0 (F := f_m_speaks) dX16_settles_292 rfl (by decide) (by decide) rfl (hp.1 _ rfl) (show s_ix _ _ 1280 from s_ix.nI (by omega) (by decide)) (show i < 1280 by omega) (by first | exact Or.inl rfl | exact Or.inr rfl | assumption) ?_
                    refine w_op (pc' := 296) (ll' := [_, _, _, _]) dX16_settles_293 rfl ?_
                    refine w_goto (t := 156) dX16_settles_296 (by decide) ?_
                    have es : q_sis I1 i = true := by unfold q_sis; rw [bI_n0.mp c169, decide_eq_true (show 0 < I1 f_m_winds (I1 f_mr_division (q_rk I1 i)).toNatClampNeg from ew ▸ Int32.not_le.mp c196)]; rfl
                    have e2 : decide (I1 f_m_speaks i = 0) = false := decide_eq_false c222
                    have e3 : decide (I1 f_m_speaks i ≠ 0) = !decide (I1 f_m_speaks i = 0) := by by_cases z : I1 f_m_speaks i = 0 <;> simp [z]
                    rw [e2] at e3
                    rw [show nI i + Int32.ofInt 1 = nI (i + 1) from nI_1 i]
                    rw [s_run_s hi] at hr
                    unfold q_sp at hr
                    simp only [es, e2, e3] at hr
                    exact ih (i + 1) _ _ _ _ (by omega) (e.trans ((s_eqN.up (by decide)).trans (s_eqN.up (by decide)))) hr (by omega)
                  · exact absurd c265 (by decide)
                · refine w_op (pc' := 251) dX16_settles_250 rfl ?_
                  refine w_goto (t := 255) dX16_settles_251 (by decide) ?_
                  refine w_op (pc' := 256) dX16_settles_255 rfl ?_
                  refine t_putJ (F := j_m_allBegun) dX16_settles_256 rfl rfl (by decide) rfl rfl (Or.inl rfl) (hp.1 _ rfl) ?_
                  refine w_op (pc' := 260) dX16_settles_259 rfl ?_
                  refine w_op (pc' := 261) dX16_settles_260 rfl ?_
                  refine t_getJ (F := j_m_ended) dX16_settles_261 rfl rfl (by decide) rfl (fun _ => rfl) (hp.1 _ rfl) ?_
                  refine w_op (pc' := 265) dX16_settles_264 rfl ?_
                  refine w_ifne (t := 281) dX16_settles_265 (by decide) (fun c265 => ?_) (fun c265 => ?_)
                  · refine w_op (pc' := 282) dX16_settles_281 rfl ?_
                    refine w_op (pc' := 283) dX16_settles_282 rfl ?_
                    refine t_putJ (F := j_m_ended) dX16_settles_283 rfl rfl (by decide) rfl rfl (Or.inl rfl) (hp.1 _ rfl) ?_
                    refine w_op (pc' := 287) dX16_settles_286 rfl ?_
                    refine t_getG0 (G := g_m_speaks) dX16_settles_287 rfl rfl (by decide) rfl (fun _ => rfl) (hp.1 _ rfl) ?_
                    refine w_op (pc' := 291) dX16_settles_290 rfl ?_
                    refine w_op (pc' := 292) dX16_settles_291 rfl ?_
                    refine t_bast0 (F := f_m_speaks) dX16_settles_292 rfl (by decide) (by decide) rfl (hp.1 _ rfl) (show s_ix _ _ 1280 from s_ix.nI (by omega) (by decide)) (show i < 1280 by omega) (by first | exact Or.inl rfl | exact Or.inr rfl | assumption) ?_
                    refine w_op (pc' := 296) (ll' := [_, _, _, _]) dX16_settles_293 rfl ?_
                    refine w_goto (t := 156) dX16_settles_296 (by decide) ?_
                    exact absurd c247 c222
                  · exact absurd c265 (by decide)
            · refine w_iconst (v := 1) dX16_settles_225 rfl ?_
              refine w_goto (t := 230) dX16_settles_226 (by decide) ?_
              refine w_op (pc' := 231) dX16_settles_230 rfl ?_
              refine t_iast0 (F := f_m_begun) dX16_settles_231 rfl (by decide) (by decide) rfl (hp.1 _ rfl) (show s_ix _ _ 1280 from s_ix.nI (by omega) (by decide)) (show i < 1280 by omega) ?_
              refine w_op (pc' := 233) dX16_settles_232 rfl ?_
              refine w_op (pc' := 234) dX16_settles_233 rfl ?_
              refine t_getJ (F := j_m_allBegun) dX16_settles_234 rfl rfl (by decide) rfl (fun _ => rfl) (hp.1 _ rfl) ?_
              refine w_op (pc' := 238) dX16_settles_237 rfl ?_
              refine w_ifeq (t := 254) dX16_settles_238 (by decide) (fun c238 => ?_) (fun c238 => ?_)
              · exact absurd c238 (by decide)
              · refine w_op (pc' := 242) dX16_settles_241 rfl ?_
                refine t_getG0 (G := g_m_speaks) dX16_settles_242 rfl rfl (by decide) rfl (fun _ => rfl) (hp.1 _ rfl) ?_
                refine w_op (pc' := 246) dX16_settles_245 rfl ?_
                refine t_bald0 (F := f_m_speaks) dX16_settles_246 rfl (by decide) rfl (hp.1 _ rfl) (show s_ix _ _ 1280 from s_ix.nI (by omega) (by decide)) (show i < 1280 by omega) ?_
                refine w_ifne (t := 254) dX16_settles_247 (by decide) (fun c247 => ?_) (fun c247 => ?_)
                · refine w_op (pc' := 255) dX16_settles_254 rfl ?_
                  refine w_op (pc' := 256) dX16_settles_255 rfl ?_
                  refine t_putJ (F := j_m_allBegun) dX16_settles_256 rfl rfl (by decide) rfl rfl (Or.inl rfl) (hp.1 _ rfl) ?_
                  refine w_op (pc' := 260) dX16_settles_259 rfl ?_
                  refine w_op (pc' := 261) dX16_settles_260 rfl ?_
                  refine t_getJ (F := j_m_ended) dX16_settles_261 rfl rfl (by decide) rfl (fun _ => rfl) (hp.1 _ rfl) ?_
                  refine w_op (pc' := 265) dX16_settles_264 rfl ?_
                  refine w_ifne (t := 281) dX16_settles_265 (by decide) (fun c265 => ?_) (fun c265 => ?_)
                  · refine w_op (pc' := 282) dX16_settles_281 rfl ?_
                    refine w_op (pc' := 283) dX16_settles_282 rfl ?_
                    refine t_putJ (F := j_m_ended) dX16_settles_283 rfl rfl (by decide) rfl rfl (Or.inl rfl) (hp.1 _ rfl) ?_
                    refine w_op (pc' := 287) dX16_settles_286 rfl ?_
                    refine t_getG0 (G := g_m_speaks) dX16_settles_287 rfl rfl (by decide) rfl (fun _ => rfl) (hp.1 _ rfl) ?_
                    refine w_op (pc' := 291) dX16_settles_290 rfl ?_
                    refine w_op (pc' := 292) dX16_settles_291 rfl ?_
                    refine t_bast0 (F := f_m_speaks) dX16_settles_292 rfl (by decide) (by decide) rfl (hp.1 _ rfl) (show s_ix _ _ 1280 from s_ix.nI (by omega) (by decide)) (show i < 1280 by omega) (by first | exact Or.inl rfl | exact Or.inr rfl | assumption) ?_
                    refine w_op (pc' := 296) (ll' := [_, _, _, _]) dX16_settles_293 rfl ?_
                    refine w_goto (t := 156) dX16_settles_296 (by decide) ?_
                    exact absurd c222 c247
                  · exact absurd c265 (by decide)
                · refine w_op (pc' := 251) dX16_settles_250 rfl ?_
                  refine w_goto (t := 255) dX16_settles_251 (by decide) ?_
                  refine w_op (pc' := 256) dX16_settles_255 rfl ?_
                  refine t_putJ (F := j_m_allBegun) dX16_settles_256 rfl rfl (by decide) rfl rfl (Or.inl rfl) (hp.1 _ rfl) ?_
                  refine w_op (pc' := 260) dX16_settles_259 rfl ?_
                  refine w_op (pc' := 261) dX16_settles_260 rfl ?_
                  refine t_getJ (F := j_m_ended) dX16_settles_261 rfl rfl (by decide) rfl (fun _ => rfl) (hp.1 _ rfl) ?_
                  refine w_op (pc' := 265) dX16_settles_264 rfl ?_
                  refine w_ifne (t := 281) dX16_settles_265 (by decide) (fun c265 => ?_) (fun c265 => ?_)
                  · refine w_op (pc' := 282) dX16_settles_281 rfl ?_
                    refine w_op (pc' := 283) dX16_settles_282 rfl ?_
                    refine t_putJ (F := j_m_ended) dX16_settles_283 rfl rfl (by decide) rfl rfl (Or.inl rfl) (hp.1 _ rfl) ?_
                    refine w_op (pc' := 287) dX16_settles_286 rfl ?_
                    refine t_getG0 (G := g_m_speaks) dX16_settles_287 rfl rfl (by decide) rfl (fun _ => rfl) (hp.1 _ rfl) ?_
                    refine w_op (pc' := 291) dX16_settles_290 rfl ?_
                    refine w_op (pc' := 292) dX16_settles_291 rfl ?_
                    refine t_bast0 (F := f_m_speaks) dX16_settles_292 rfl (by decide) (by decide) rfl (hp.1 _ rfl) (show s_ix _ _ 1280 from s_ix.nI (by omega) (by decide)) (show i < 1280 by omega) (by first | exact Or.inl rfl | exact Or.inr rfl | assumption) ?_
                    refine w_op (pc' := 296) (ll' := [_, _, _, _]) dX16_settles_293 rfl ?_
                    refine w_goto (t := 156) dX16_settles_296 (by decide) ?_
                    have es : q_sis I1 i = true := by unfold q_sis; rw [bI_n0.mp c169, decide_eq_true (show 0 < I1 f_m_winds (I1 f_mr_division (q_rk I1 i)).toNatClampNeg from ew ▸ Int32.not_le.mp c196)]; rfl
                    have e2 : decide (I1 f_m_speaks i = 0) = true := decide_eq_true c222
                    have e3 : decide (I1 f_m_speaks i ≠ 0) = !decide (I1 f_m_speaks i = 0) := by by_cases z : I1 f_m_speaks i = 0 <;> simp [z]
                    rw [e2] at e3
                    rw [show nI i + Int32.ofInt 1 = nI (i + 1) from nI_1 i]
                    rw [s_run_s hi] at hr
                    unfold q_sp at hr
                    simp only [es, e2, e3] at hr
                    exact ih (i + 1) _ _ _ _ (by omega) (e.trans ((s_eqN.up (by decide)).trans (s_eqN.up (by decide)))) hr (by omega)
                  · exact absurd c265 (by decide)
theorem q_rc_l {nk nr np : Nat} {I : e_I} : q_rc nk nr np I f_l_size = I f_l_size := s_eqN.qrc _ (by decide)
set_option maxRecDepth 100000 in
set_option maxHeartbeats 800000 in
theorem c_X16_settles {X : e_XT} {d : Nat} {p : e_Sp} {I : e_I} {J : e_Jt} {c : Nat × Nat} {w : e_Rw1} {Q : e_Rt → e_SS → Prop} {nk nr np : Nat} (hM : q_D p I nk nr np) (h3 : 3 ≤ nk) (hS : q_S I) (hb : q_bo I f_m_isDown) (hb2 : q_bo I f_m_isRelay) {a b n : Nat} (hL : q_L p I c a b n) (hX : (X 8).1 = 0) (ha : a + n + 100000000 < 4294960000) (hn : n + 1280 < 39999999) (k : ∀ p' c' n', q_X p p' → q_L p' (q_st nk nr np (I, J)).1 c' a b n' → n' ≤ n + np → Q (.inl none) (p', (q_st nk nr np (I, J)).1, (q_st nk nr np (I, J)).2, c', w)) : s_c X (d + 8) 219 [.ref (p.1 T_MODEL 0)] (p, I, J, c, w) Q := by
  have hp := hM.1
  refine m_X16_settles (Nat.le_of_ble_eq_true rfl) ?_
  show s_w _ _ _ 0 _ _ _ _
  refine w_op (pc' := 1) dX16_settles_0 rfl ?_
  refine t_callV (t := T_MODEL) (As := []) dX16_settles_1 rfl rM_X16_reckons (by decide) rfl rfl (by decide) (by decide) (Nat.le_of_ble_eq_true rfl) rfl (hp.1 _ rfl) (c_X16_reckons hM h3 hS hb hb2 ?_)
  show s_w _ _ _ 4 _ _ _ _
  refine w_iconst (v := 0) dX16_settles_4 rfl ?_
  refine w_op (pc' := 6) (ll' := [_, _, _, _]) dX16_settles_5 rfl ?_
  have hM1 := hM.eqN s_eqN.qrc (by decide) (I' := q_rc nk nr np I)
  refine la_X16_settles (c := c) hM hX ha hn (fun p1 c1 n1 o1 o2 o3 x1 e1 hL1 hn1 => ?_) (np + 1) 0 p _ c n _ _ (Nat.zero_le _) q_X.rfl' (q_e.of s_eqN.qrc (by decide) (by decide)) (hL.eq (congrFun q_rc_l 4)) (Nat.le_refl _) rfl (by omega)
  generalize hI1 : s_run q_stA 0 np (q_rc nk nr np I) = I1 at e1 hL1 ⊢
  have hM1 := hM.e x1 e1 (by decide)
  refine w_op (pc' := 130) dX16_settles_129 rfl ?_
  refine w_op (pc' := 131) (ll' := [_, _, _, _]) dX16_settles_130 rfl ?_
  refine lm_X16_settles hM1 (fun o1 o2 o3 => ?_) (np + 1) 0 _ _ _ (Nat.zero_le _) s_eqN.rfl' rfl (by omega)
  have e2 : s_eqN [f_m_isOpen, f_m_closedSince] I1 (s_run q_mv 0 np I1) := s_eqN.run s_eqN.qmv _ _ _
  generalize hI2 : s_run q_mv 0 np I1 = I2 at e2 ⊢
  have hM2 := hM1.eqN e2 (by decide)
  have hp2 := hM2.1
  refine w_op (pc' := 151) dX16_settles_150 rfl ?_
  refine t_callV (t := T_MODEL) (As := []) dX16_settles_151 rfl rM_X16_blows (by decide) rfl rfl (by decide) (by decide) (Nat.le_of_ble_eq_true rfl) rfl (hp2.1 _ rfl) (c_X16_blows hM2 ?_)
  show s_w _ _ _ 154 _ _ _ _
  refine w_op (pc' := 155) dX16_settles_154 rfl ?_
  refine w_op (pc' := 156) (ll' := [_, _, _, _]) dX16_settles_155 rfl ?_
  have hM3 := hM2.eqN (s_eqN.qbws (nk := nk) (np := np)) (by decide)
  have hk := k p1 c1 n1 x1 (hL1.eq ?_) hn1
  · exact lc_X16_settles (J := J) hM3 hk (np + 1) 0 _ _ _ _ (Nat.zero_le _) s_eqN.rfl' (by rw [← hI2, ← hI1]; rfl) (by omega)
  · have q1 : q_bws nk np I2 f_l_size = I2 f_l_size := s_eqN.qbws f_l_size (by decide)
    have q2 : (s_run q_sp 0 np (q_bws nk np I2, J)).1 f_l_size = q_bws nk np I2 f_l_size := s_eqN.runP s_eqN.qsp _ _ _ f_l_size (by decide)
    unfold q_st; rw [hI1, hI2]
    exact (congrFun q2 4).trans ((congrFun q1 4).trans (congrFun (e2 f_l_size (by decide)) 4))

