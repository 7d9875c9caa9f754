/-! 99993: ranks of the second implementation (printed by wip/whole/p99993.py) -/
def q_rkf (I : e_I) (np i nr : Nat) : e_I := fun F j => if F = f_m_rankOf ∧ np ≤ j ∧ j < np + i then nI nr else I F j
theorem q_rkf_0 {I : e_I} {np nr : Nat} : q_rkf I np 0 nr = I := by
  funext F j
  exact if_neg (by omega)
theorem q_rkf_s {I : e_I} {np i nr : Nat} : s_up (q_rkf I np i nr) f_m_rankOf (np + i) (nI nr) = q_rkf I np (i + 1) nr := by
  funext F j
  unfold s_up q_rkf
  by_cases e : F = f_m_rankOf ∧ j = np + i
  · rw [if_pos e, if_pos ⟨e.1, by omega, by omega⟩]
  · rw [if_neg e]
    by_cases e2 : F = f_m_rankOf ∧ np ≤ j ∧ j < np + i
    · rw [if_pos e2, if_pos ⟨e2.1, by omega, by omega⟩]
    · rw [if_neg e2, if_neg (fun z => e2 ⟨z.1, z.2.1, by have : j ≠ np + i := fun y => e ⟨z.1, y⟩; omega⟩)]
theorem q_rkf_F {I : e_I} {np i nr F : Nat} (h : F ≠ f_m_rankOf) : q_rkf I np i nr F = I F := by
  funext j
  exact if_neg (fun z => h z.1)
/-- the ints with a rank more -/
def q_rkI (I : e_I) (nr np lo m : Nat) (x3 x4 x5 x6 x7 : Int32) : e_I := s_adI (s_up (q_rkf (s_IMRANK I nr (nI lo) (nI (lo + m)) x3 x4 x5 x6 x7 (nI np) 0) np (m + 1) nr) f_m_pipes 0 (nI (np + (m + 1)))) 2 nr
def q_rF : List Nat := [f_mr_lowest, f_mr_highest, f_mr_wind, f_mr_division, f_mr_delay, f_mr_rest, f_mr_power, f_mr_base, f_mr_heat, f_m_rankOf, f_m_pipes, f_l_modCount, f_l_size]
theorem s_IMRANK_i {I : e_I} {r F i : Nat} {x0 x1 x2 x3 x4 x5 x6 x7 x8 : Int32} (h : i ≠ r) : s_IMRANK I r x0 x1 x2 x3 x4 x5 x6 x7 x8 F i = I F i := by
  unfold s_IMRANK
  rw [s_up_i h, s_up_i h, s_up_i h, s_up_i h, s_up_i h, s_up_i h, s_up_i h, s_up_i h, s_up_i h]
theorem s_IMRANK_e {I : e_I} {r : Nat} {x0 x1 x2 x3 x4 x5 x6 x7 x8 : Int32} : s_eqN q_rF I (s_IMRANK I r x0 x1 x2 x3 x4 x5 x6 x7 x8) := ((((((((s_eqN.up (by decide)).trans (s_eqN.up (by decide))).trans (s_eqN.up (by decide))).trans (s_eqN.up (by decide))).trans (s_eqN.up (by decide))).trans (s_eqN.up (by decide))).trans (s_eqN.up (by decide))).trans (s_eqN.up (by decide))).trans (s_eqN.up (by decide))
theorem q_rkf_e {I : e_I} {np i nr : Nat} : s_eqN q_rF I (q_rkf I np i nr) := fun F hF => q_rkf_F (fun z => by rw [z] at hF; exact absurd hF (by decide))
theorem s_adI_e {I : e_I} {l n : Nat} : s_eqN q_rF I (s_adI I l n) := (s_eqN.up (by decide)).trans (s_eqN.up (by decide))
theorem q_rkI_e {I : e_I} {nr np lo m : Nat} {x3 x4 x5 x6 x7 : Int32} : s_eqN q_rF I (q_rkI I nr np lo m x3 x4 x5 x6 x7) := ((s_IMRANK_e.trans q_rkf_e).trans (s_eqN.up (by decide))).trans s_adI_e
theorem q_rkI_mr {I : e_I} {nr np lo m F : Nat} {x3 x4 x5 x6 x7 : Int32} (h : F ≠ f_m_rankOf ∧ F ≠ f_m_pipes ∧ F ≠ f_l_size ∧ F ≠ f_l_modCount) : q_rkI I nr np lo m x3 x4 x5 x6 x7 F = s_IMRANK I nr (nI lo) (nI (lo + m)) x3 x4 x5 x6 x7 (nI np) 0 F := by
  unfold q_rkI
  rw [s_adI_F h.2.2.1 h.2.2.2]
  funext i
  rw [s_up_F h.2.1, q_rkf_F h.1]
theorem q_rkI_l {I : e_I} {nr np lo m l : Nat} {x3 x4 x5 x6 x7 : Int32} (h : l ≠ 2) : q_rkI I nr np lo m x3 x4 x5 x6 x7 f_l_size l = I f_l_size l := by
  unfold q_rkI
  rw [s_adI_n h, s_up_F (by decide), q_rkf_F (by decide)]
  unfold s_IMRANK
  rw [s_up_F (by decide), s_up_F (by decide), s_up_F (by decide), s_up_F (by decide), s_up_F (by decide), s_up_F (by decide), s_up_F (by decide), s_up_F (by decide), s_up_F (by decide)]
/-- places of a rank -/
def q_N8 (r t i : Nat) : Bool := decide (t = T_MRANK) && decide (i = r)
def q_NR (r t i : Nat) : Bool := q_N8 r t i || s_NL 2 t i
theorem q_N8_t {r t i : Nat} (h : t ≠ T_MRANK ∨ i ≠ r) : q_N8 r t i = false := by
  unfold q_N8
  rcases h with h | h
  · rw [decide_eq_false h]; rfl
  · rw [decide_eq_false h, Bool.and_false]
theorem s_NL_t {l t i : Nat} (h : t ≠ T_LARR ∨ i ≠ l) : s_NL l t i = false := by
  unfold s_NL
  rcases h with h | h
  · rw [decide_eq_false h]; rfl
  · rw [decide_eq_false h, Bool.and_false]
theorem q_D.addR {p p1 : e_Sp} {I : e_I} {nk nr np lo m dv : Nat} {x3 x5 x6 x7 : Int32} (h : q_D p I nk nr np) (hx : s_xv (q_NR nr) p p1) (hv : p1.2.1 T_MRANK nr = true) (h10 : nr < 10) (hm : lo + m ≤ 127) (hnp : np + m + 1 ≤ 1280) (hd : dv < 3) : q_D p1 (q_rkI I nr np lo m x3 (nI dv) x5 x6 x7) nk (nr + 1) (np + m + 1) := by
  obtain ⟨⟨a1, a2⟩, ⟨b1, b2⟩, ⟨b3, b4⟩, ⟨b5, b6⟩, b7, b8, b9⟩ := h
  have e := fun F => q_rkI_e (I := I) (nr := nr) (np := np) (lo := lo) (m := m) (x3 := x3) (x4 := nI dv) (x5 := x5) (x6 := x6) (x7 := x7) F
  have n1 : ∀ t i, t ≠ T_MRANK → t ≠ T_LARR → q_NR nr t i = false := fun t i h1 h2 => by unfold q_NR; rw [q_N8_t (Or.inl h1), s_NL_t (Or.inl h2)]; rfl
  have n2 : ∀ r, r < nr → q_NR nr T_MRANK r = false := fun r hr => by unfold q_NR; rw [q_N8_t (Or.inr (by omega)), s_NL_t (Or.inl (by decide))]; rfl
  have mr := fun F h => q_rkI_mr (I := I) (nr := nr) (np := np) (lo := lo) (m := m) (F := F) (x3 := x3) (x4 := nI dv) (x5 := x5) (x6 := x6) (x7 := x7) h
  refine ⟨⟨fun t ht => (hx.1 t 0 (n1 t 0 (fun z => by rw [z] at ht; exact absurd ht (by decide)) (fun z => by rw [z] at ht; exact absurd ht (by decide)))).2.1.trans (a1 t ht), fun l hl => (hx.1 T_LIST l (n1 _ _ (by decide) (by decide))).2.1.trans (a2 l hl)⟩, ⟨b1, (q_rkI_l (by decide)).trans b2⟩, ⟨by omega, s_adI_s⟩, ⟨by omega, ?_⟩, fun k hk => ?_, fun r hr => ?_, fun q hq => ?_⟩
  · unfold q_rkI
    rw [s_adI_F (by decide) (by decide), s_up_s, Nat.add_assoc]
  · obtain ⟨g1, g2, g3⟩ := b7 k hk
    unfold q_K
    rw [e f_mk_division (by decide), e f_mk_rows (by decide), e f_mk_relay (by decide)]
    exact ⟨(hx.1 _ _ (n1 _ _ (by decide) (by decide))).2.1.trans g1, fun t ht => (hx.1 t k (n1 t k (fun z => by rw [z] at ht; exact absurd ht (by decide)) (fun z => by rw [z] at ht; exact absurd ht (by decide)))).2.1.trans (g2 t ht), g3⟩
  · unfold q_R
    rw [mr f_mr_lowest (by decide), mr f_mr_highest (by decide), mr f_mr_base (by decide), mr f_mr_division (by decide)]
    by_cases z : r = nr
    · subst z
      refine ⟨hv, lo, m, np, dv, ?_, ?_, ?_, ?_, hm, by omega, hd⟩
      · unfold s_IMRANK; repeat (first | rw [s_up_s] | rw [s_up_F (by decide)])
      · unfold s_IMRANK; repeat (first | rw [s_up_s] | rw [s_up_F (by decide)])
      · unfold s_IMRANK; repeat (first | rw [s_up_s] | rw [s_up_F (by decide)])
      · unfold s_IMRANK; repeat (first | rw [s_up_s] | rw [s_up_F (by decide)])
    · rw [s_IMRANK_i z, s_IMRANK_i z, s_IMRANK_i z, s_IMRANK_i z]
      obtain ⟨g1, l2, m2, c2, d2, g2, g3, g4, g5, g6, g7, g8⟩ := b8 r (by omega)
      exact ⟨(hx.1 _ _ (n2 r (by omega))).2.1.trans g1, l2, m2, c2, d2, g2, g3, g4, g5, g6, by omega, g8⟩
  · rw [mr f_mr_base (by decide)]
    have eq : ∀ q, q_rkI I nr np lo m x3 (nI dv) x5 x6 x7 f_m_rankOf q = if np ≤ q ∧ q < np + (m + 1) then nI nr else I f_m_rankOf q := fun q => by
      unfold q_rkI
      rw [s_adI_F (by decide) (by decide), s_up_F (by decide)]
      unfold q_rkf
      by_cases z : np ≤ q ∧ q < np + (m + 1)
      · rw [if_pos ⟨rfl, z⟩, if_pos z]
      · rw [if_neg (fun y => z y.2), if_neg z]
        unfold s_IMRANK
        rw [s_up_F (by decide), s_up_F (by decide), s_up_F (by decide), s_up_F (by decide), s_up_F (by decide), s_up_F (by decide), s_up_F (by decide), s_up_F (by decide), s_up_F (by decide)]
    rw [eq]
    by_cases z : np ≤ q
    · rw [if_pos ⟨z, by omega⟩]
      refine ⟨nr, np, by omega, rfl, ?_, z⟩
      unfold s_IMRANK; repeat (first | rw [s_up_s] | rw [s_up_F (by decide)])
    · rw [if_neg (fun y => z y.1)]
      obtain ⟨r, b, h1, h2, h3, h4⟩ := b9 q (by omega)
      exact ⟨r, b, by omega, h2, by rw [s_IMRANK_i (by omega)]; exact h3, h4⟩
theorem q_G.addR {p p1 : e_Sp} {I : e_I} {c : Nat × Nat} {nk nr np a b n x y lo m dv : Nat} {x3 x5 x6 x7 : Int32} (h : q_G p I c nk nr np a b n) (hx : s_xv (q_NR nr) p p1) (hv : p1.2.1 T_MRANK nr = true) (h10 : nr < 10) (hm : lo + m ≤ 127) (hnp : np + m + 1 ≤ 1280) (hd : dv < 3) (ha : a + x + n + 100000000 < 4294960000) : q_G p1 (q_rkI I nr np lo m x3 (nI dv) x5 x6 x7) (c.1 + x, c.2 + y) nk (nr + 1) (np + m + 1) (a + x) (b + y) n := by
  have e := fun F => q_rkI_e (I := I) (nr := nr) (np := np) (lo := lo) (m := m) (x3 := x3) (x4 := nI dv) (x5 := x5) (x6 := x6) (x7 := x7) F
  have n1 : ∀ t i, t ≠ T_MRANK → (t ≠ T_LARR ∨ i ≠ 2) → q_NR nr t i = false := fun t i h1 h2 => by unfold q_NR; rw [q_N8_t (Or.inl h1), s_NL_t h2]; rfl
  obtain ⟨h1, h2, h3, h4, h5, h6, h7, h8⟩ := h
  refine ⟨h1.addR hx hv h10 hm hnp hd, h2, ?_, by unfold q_bo; rw [e _ (by decide)]; exact h4, by unfold q_bo; rw [e _ (by decide)]; exact h5, h6.v (funext fun j => (hx.1 _ _ (n1 _ _ (by decide) (Or.inl (by decide)))).2.1) (hx.1 _ _ (n1 _ _ (by decide) (Or.inl (by decide)))).2.1 (hx.1 _ _ (n1 _ _ (by decide) (Or.inr (by decide)))) (q_rkI_l (by decide)), ha, h8⟩
  unfold q_S
  rw [e _ (by decide), e _ (by decide), e _ (by decide)]
  exact h3

set_option maxRecDepth 100000 in
set_option maxHeartbeats 4000000 in
theorem l3_X16_rank {X : e_XT} {d : Nat} {p : e_Sp} {I : e_I} {J : e_Jt} {c : Nat × Nat} {w : e_Rw1} {Q : e_Rt → e_SS → Prop} {nk nr np a b n : Nat} (hG : q_G p I c nk (nr + 1) np a b n) (hX : (X 8).1 = 0) {v1 v2 v3 v4 v5 v6 v7 v8 l9 l10 : Option Value} {x : Int32} (k : ∀ p' c' n', q_X p p' → q_L p' (q_st nk (nr + 1) np (I, J)).1 c' a b n' → n' ≤ n + np → Q (.inl (some (.int (nI nr)))) (p', q_an (q_st nk (nr + 1) np (I, J)).1, (q_st nk (nr + 1) np (I, J)).2, c', w)) : s_w X (d + 10) K_X16_rank 190 [some (.ref (p.1 T_MODEL 0)), v1, v2, v3, v4, v5, v6, v7, v8, l9, l10] [.int x] (p, I, J, c, w) (fun r S' => e_rcr (some .int) r = true ∧ Q r S') := by
  have hp := hG.1.1
  refine w_op (pc' := 191) dX16_rank_190 rfl ?_
  refine w_op (pc' := 192) dX16_rank_191 rfl ?_
  refine w_op (pc' := 193) dX16_rank_192 rfl ?_
  refine t_getG0 (G := g_m_list0) dX16_rank_193 rfl rfl (by decide) rfl (fun _ => rfl) (hp.1 _ rfl) ?_
  refine t_callV (t := T_LIST) (As := []) dX16_rank_196 rfl rM_Jx4a65c_size_8abf5 (by decide) rfl rfl (by decide) (by decide) (Nat.le_of_ble_eq_true rfl) rfl (hp.2 _ (by decide)) (c_size (hp.2 _ (by decide)) ?_)
  show s_w _ _ _ 199 _ _ _ _
  rw [hG.1.2.2.1.2]
  refine w_iconst (v := 1) dX16_rank_199 rfl ?_
  refine w_op (pc' := 201) dX16_rank_200 rfl ?_
  rw [show nI (nr + 1) - 1 = nI nr from nI_pred nr]
  refine t_callV (t := T_MODEL) (As := [_]) dX16_rank_201 rfl rM_X16_settled (by decide) rfl rfl (by decide) (by decide) (Nat.le_of_ble_eq_true rfl) rfl (hp.1 _ rfl) (c_X16_settled hG hX (fun p1 c1 n1 x1 hL1 hn1 => ?_))
  show s_w _ _ _ 204 _ _ _ _
  exact w_ireturn dX16_rank_204 ⟨rfl, k p1 c1 n1 x1 hL1 hn1⟩

set_option maxRecDepth 100000 in
set_option maxHeartbeats 4000000 in
theorem l1_X16_rank {X : e_XT} {d : Nat} {p : e_Sp} {I : e_I} {J : e_Jt} {c : Nat × Nat} {w : e_Rw1} {Q : e_Rt → e_SS → Prop} {nk nr np m : Nat} (hp : s_ok p) (hv : p.2.1 T_MRANK nr = true) (hnp : I f_m_pipes 0 = nI np) (hr2 : I f_l_size 2 = nI nr) (hnr : nr < 10) (h1280 : np + m + 1 ≤ 1280) (hN : (I f_mr_highest nr - I f_mr_lowest nr + 1) = nI (m + 1)) {v1 v2 v3 v4 v5 v6 v7 v8 : Option Value} (hk : ∀ o10, s_w X (d + 10) K_X16_rank 167 [some (.ref (p.1 T_MODEL 0)), v1, v2, v3, v4, v5, v6, v7, v8, some (.ref (p.1 T_MRANK nr)), o10] [] (p, q_rkf I np (m + 1) nr, J, c, w) (fun r S' => e_rcr (some .int) r = true ∧ Q r S')) : ∀ (n : Nat) (i : Nat), (h1 : i ≤ m + 1) → (hn : m + 1 - i < n) → s_w X (d + 10) K_X16_rank 132 [some (.ref (p.1 T_MODEL 0)), v1, v2, v3, v4, v5, v6, v7, v8, some (.ref (p.1 T_MRANK nr)), some (.int (nI i))] [] (p, q_rkf I np i nr, J, c, w) (fun r S' => e_rcr (some FieldType.int) r = true ∧ Q r S') := by
  intro n
  induction n with
  | zero =>
    intro i h1 hn
    exact absurd hn (Nat.not_lt_zero _)
  | succ n ih =>
    intro i h1 hn
    refine w_op (pc' := 134) dX16_rank_132 rfl ?_
    refine w_op (pc' := 136) dX16_rank_134 rfl ?_
    refine t_callV (t := T_MRANK) (As := []) dX16_rank_136 rfl rM_X15_pipes (by decide) rfl rfl (by decide) (by decide) (Nat.le_of_ble_eq_true rfl) rfl hv (c_X15_pipes hv ?_)
    show s_w _ _ _ 139 _ _ _ _
    rw [q_rkf_F (by decide), q_rkf_F (by decide), hN]
    refine w_icmpge (t := 167) dX16_rank_139 (by decide) (fun c139 => ?_) (fun c139 => ?_)
    · have hi : m + 1 ≤ i := (nI_leI (by omega) (by omega)).mp c139
      obtain rfl : i = m + 1 := by omega
      exact hk _
    · have hi : i < m + 1 := Nat.lt_of_not_le (fun t => c139 ((nI_leI (by omega) (by omega)).mpr t))
      refine w_op (pc' := 143) dX16_rank_142 rfl ?_
      refine t_getG0 (G := g_m_rankOf) dX16_rank_143 rfl rfl (by decide) rfl (fun _ => rfl) (hp.1 _ rfl) ?_
      refine w_op (pc' := 147) dX16_rank_146 rfl ?_
      refine t_getI (F := f_m_pipes) dX16_rank_147 rfl rfl (by decide) rfl ⟨rfl, fun _ => rfl⟩ (hp.1 _ rfl) ?_
      refine w_op (pc' := 152) dX16_rank_150 rfl ?_
      rw [show q_rkf I np i nr f_m_pipes 0 = nI np from (congrFun (q_rkf_F (by decide)) 0).trans hnp]
      refine w_op (pc' := 153) dX16_rank_152 rfl ?_
      rw [nI_add np i]
      refine w_op (pc' := 154) dX16_rank_153 rfl ?_
      refine t_getG0 (G := g_m_list0) dX16_rank_154 rfl rfl (by decide) rfl (fun _ => rfl) (hp.1 _ rfl) ?_
      refine t_callV (t := T_LIST) (As := []) dX16_rank_157 rfl rM_Jx4a65c_size_8abf5 (by decide) rfl rfl (by decide) (by decide) (Nat.le_of_ble_eq_true rfl) rfl (hp.2 _ (by decide)) (c_size (hp.2 _ (by decide)) ?_)
      show s_w _ _ _ 160 _ _ _ _
      rw [show q_rkf I np i nr f_l_size 2 = nI nr from (congrFun (q_rkf_F (by decide)) 2).trans hr2]
      refine t_iast0 (F := f_m_rankOf) dX16_rank_160 rfl (by decide) (by decide) rfl (hp.1 _ rfl) (s_ix.nI (n := np + i) (N := 1280) (by omega) (by decide)) (by omega) ?_
      refine w_op (pc' := 164) (ll' := [_, _, _, _, _, _, _, _, _, _, _]) dX16_rank_161 rfl ?_
      refine w_goto (t := 132) dX16_rank_164 (by decide) ?_
      rw [show nI i + Int32.ofInt 1 = nI (i + 1) from nI_1 i]
      rw [q_rkf_s]
      exact ih (i + 1) (by omega) (by omega)
theorem s_IMRANK_p {I : e_I} {r F : Nat} {x0 x1 x2 x3 x4 x5 x6 x7 x8 : Int32} (h : [f_mr_lowest, f_mr_highest, f_mr_wind, f_mr_division, f_mr_delay, f_mr_rest, f_mr_power, f_mr_base, f_mr_heat].contains F = false) : s_IMRANK I r x0 x1 x2 x3 x4 x5 x6 x7 x8 F = I F := by
  have h1 : ∀ F', F' ∈ [f_mr_lowest, f_mr_highest, f_mr_wind, f_mr_division, f_mr_delay, f_mr_rest, f_mr_power, f_mr_base, f_mr_heat] → F ≠ F' := fun F' hF' z => by rw [z, List.contains_iff_mem.mpr hF'] at h; cases h
  funext i
  unfold s_IMRANK
  rw [s_up_F (h1 _ (by decide)), s_up_F (h1 _ (by decide)), s_up_F (h1 _ (by decide)), s_up_F (h1 _ (by decide)), s_up_F (h1 _ (by decide)), s_up_F (h1 _ (by decide)), s_up_F (h1 _ (by decide)), s_up_F (h1 _ (by decide)), s_up_F (h1 _ (by decide))]

set_option maxRecDepth 100000 in
set_option maxHeartbeats 4000000 in
theorem l2_X16_rank {X : e_XT} {d : Nat} {p : e_Sp} {I : e_I} {J : e_Jt} {c : Nat × Nat} {w : e_Rw1} {Q : e_Rt → e_SS → Prop} {nk nr np a b n lo m dv : Nat} {a9 : Nat} {x3 x5 x6 x7 : Int32} (hG : q_G p I c nk nr np a b n) (hX : (X 8).1 = 0) (h10 : nr < 10) (hlm : lo + m ≤ 127) (hnp : np + m + 1 ≤ 1280) (hd3 : dv < 3) (hL : s_La p I 2 nr) (hc : c.1 + 4 < e_xb) (ha : a + 2 + n + 100000000 < 4294960000) (hN0 : p.2.1 T_MRANK nr = false) {v8 o10 : Option Value} (k : ∀ p1 x9 y9, x9 ≤ 2 → y9 ≤ 60 → s_xv (q_NR nr) p p1 → p1.2.1 T_MRANK nr = true → s_La p1 (q_rkI I nr np lo m x3 (nI dv) x5 x6 x7) 2 (nr + 1) → ∀ p' c' n', q_X p1 p' → q_L p' (q_st nk (nr + 1) (np + m + 1) ((q_rkI I nr np lo m x3 (nI dv) x5 x6 x7), J)).1 c' (a + x9) (b + y9) n' → n' ≤ n + (np + m + 1) → Q (.inl (some (.int (nI nr)))) (p', q_an (q_st nk (nr + 1) (np + m + 1) ((q_rkI I nr np lo m x3 (nI dv) x5 x6 x7), J)).1, (q_st nk (nr + 1) (np + m + 1) ((q_rkI I nr np lo m x3 (nI dv) x5 x6 x7), J)).2, c', w)) : s_w X (d + 10) K_X16_rank 167 [some (.ref ((s_pv p T_MRANK nr a9 0).1 T_MODEL 0)), some (.int (nI lo)), some (.int (nI (lo + m))), some (.int x3), some (.int (nI dv)), some (.int x5), some (.int x6), some (.int x7), v8, some (.ref ((s_pv p T_MRANK nr a9 0).1 T_MRANK nr)), o10] [] ((s_pv p T_MRANK nr a9 0), q_rkf (s_IMRANK I nr (nI lo) (nI (lo + m)) x3 (nI dv) x5 x6 x7 (nI np) 0) np (m + 1) nr, J, (c.1 + 1, c.2 + 9), w) (fun r S' => e_rcr (some .int) r = true ∧ Q r S') := by
  have hx1 : s_xv (q_NR nr) p (s_pv p T_MRANK nr a9 0) := s_xv.pv (by unfold q_NR q_N8; simp)
  have hv1 : (s_pv p T_MRANK nr a9 0).2.1 T_MRANK nr = true := s_pv_v
  have hp1 : s_ok (s_pv p T_MRANK nr a9 0) := ⟨fun t ht => (s_pv_nv (fun z => by rw [z.1] at ht; exact absurd ht (by decide))).trans (hG.1.1.1 t ht), fun l hl => (s_pv_nv (fun z => absurd z.1 (by decide))).trans (hG.1.1.2 l hl)⟩
  have hN : (s_IMRANK I nr (nI lo) (nI (lo + m)) x3 (nI dv) x5 x6 x7 (nI np) 0) f_mr_highest nr - (s_IMRANK I nr (nI lo) (nI (lo + m)) x3 (nI dv) x5 x6 x7 (nI np) 0) f_mr_lowest nr + 1 = nI (m + 1) := by
    rw [show (s_IMRANK I nr (nI lo) (nI (lo + m)) x3 (nI dv) x5 x6 x7 (nI np) 0) f_mr_highest nr = nI (lo + m) from by unfold s_IMRANK; repeat (first | rw [s_up_s] | rw [s_up_F (by decide)])]
    rw [show (s_IMRANK I nr (nI lo) (nI (lo + m)) x3 (nI dv) x5 x6 x7 (nI np) 0) f_mr_lowest nr = nI lo from by unfold s_IMRANK; repeat (first | rw [s_up_s] | rw [s_up_F (by decide)])]
    rw [nI_sub (by omega), show lo + m - lo = m by omega, nI_1]
  have hL1 : s_La (s_pv p T_MRANK nr a9 0) (s_up (q_rkf (s_IMRANK I nr (nI lo) (nI (lo + m)) x3 (nI dv) x5 x6 x7 (nI np) 0) np (m + 1) nr) f_m_pipes 0 (nI (np + (m + 1)))) 2 nr := by
    unfold s_La at hL ⊢
    rw [s_up_F (by decide), q_rkf_F (by decide), s_IMRANK_p (by decide), s_pv_nv (fun z => absurd z.1 (by decide)), s_pv_n (t' := T_LARR) (fun z => absurd z.1 (by decide)), s_pv_nv (t' := T_LARR) (fun z => absurd z.1 (by decide)), s_pv_nl (t' := T_LARR) (fun z => absurd z.1 (by decide))]
    exact hL
  refine w_op (pc' := 168) dX16_rank_167 rfl ?_
  refine w_op (pc' := 169) dX16_rank_168 rfl ?_
  refine t_getI (F := f_m_pipes) dX16_rank_169 rfl rfl (by decide) rfl ⟨rfl, fun _ => rfl⟩ (hp1.1 _ rfl) ?_
  refine w_op (pc' := 174) dX16_rank_172 rfl ?_
  refine t_callV (t := T_MRANK) (As := []) dX16_rank_174 rfl rM_X15_pipes (by decide) rfl rfl (by decide) (by decide) (Nat.le_of_ble_eq_true rfl) rfl hv1 (c_X15_pipes hv1 ?_)
  show s_w _ _ _ 177 _ _ _ _
  rw [q_rkf_F (by decide), q_rkf_F (by decide), hN]
  rw [show q_rkf (s_IMRANK I nr (nI lo) (nI (lo + m)) x3 (nI dv) x5 x6 x7 (nI np) 0) np (m + 1) nr f_m_pipes 0 = nI np from (congrFun (q_rkf_F (by decide)) 0).trans ((congrFun (s_IMRANK_p (by decide)) 0).trans hG.1.2.2.2.1.2)]
  refine w_op (pc' := 178) dX16_rank_177 rfl ?_
  rw [nI_add np (m + 1)]
  refine t_putI (F := f_m_pipes) dX16_rank_178 rfl rfl (by decide) (by decide) rfl rfl (Or.inl rfl) (hp1.1 _ rfl) ?_
  refine w_op (pc' := 182) dX16_rank_181 rfl ?_
  refine t_getG0 (G := g_m_list0) dX16_rank_182 rfl rfl (by decide) rfl (fun _ => rfl) (hp1.1 _ rfl) ?_
  refine w_op (pc' := 187) dX16_rank_185 rfl ?_
  refine t_callV (t := T_LIST) (As := [_]) dX16_rank_187 rfl rM_Jx4a65c_add_9ea2d (by decide) rfl rfl (by decide) (by decide) (Nat.le_of_ble_eq_true rfl) rfl (hp1.2 _ (by decide)) (c_add hL1 hv1 hX (show c.1 + 1 < e_xb by omega) (fun hA hA10 hlt hle => ?_) (fun hAB b9 hb9 => ?_))
  · show s_w _ _ _ 190 _ _ _ _
    have hx2 : s_xv (q_NR nr) p (s_pv p T_MRANK nr a9 0) := hx1
    have hG2 := hG.addR (x := 1) (y := 9) (lo := lo) (m := m) (dv := dv) (x3 := x3) (x5 := x5) (x6 := x6) (x7 := x7) hx2 s_pv_v h10 hlm hnp hd3 (by omega)
    have h2 := l3_X16_rank (d := d) (J := J) (w := w) (Q := Q) (x := 1) (l9 := some (.ref a9)) (l10 := o10) (v1 := some (.int (nI lo))) (v2 := some (.int (nI (lo + m)))) (v3 := some (.int x3)) (v4 := some (.int (nI dv))) (v5 := some (.int x5)) (v6 := some (.int x6)) (v7 := some (.int x7)) (v8 := v8) hG2 hX (fun p3 c3 n3 x3 hL3 hn3 => k (s_pv p T_MRANK nr a9 0) 1 9 (by omega) (by omega) hx2 s_pv_v (hL1.add0 hA hA10 hlt hle (by omega)) p3 c3 n3 x3 hL3 hn3)
    rw [show (s_pv p T_MRANK nr a9 0).1 T_MODEL 0 = p.1 T_MODEL 0 from s_pv_n (fun z => absurd z.1 (by decide))] at h2 ⊢
    rw [show (s_pv p T_MRANK nr a9 0).1 T_MRANK nr = a9 from s_pv_s]
    exact h2
  · show s_w _ _ _ 190 _ _ _ _
    have hcap : s_cap nr ≤ 30 := by (unfold s_cap; split <;> omega)
    have hx2 : s_xv (q_NR nr) p (s_pv (s_pv p T_MRANK nr a9 0) T_LARR 2 b9 (s_cap nr)) := hx1.trans (s_xv.pv (by unfold q_NR s_NL; simp))
    have hG2 := hG.addR (x := 2) (y := (9 + s_cap nr)) (lo := lo) (m := m) (dv := dv) (x3 := x3) (x5 := x5) (x6 := x6) (x7 := x7) hx2 (s_pv_k s_pv_v) h10 hlm hnp hd3 (by omega)
    have h2 := l3_X16_rank (d := d) (J := J) (w := w) (Q := Q) (x := 1) (l9 := some (.ref a9)) (l10 := o10) (v1 := some (.int (nI lo))) (v2 := some (.int (nI (lo + m)))) (v3 := some (.int x3)) (v4 := some (.int (nI dv))) (v5 := some (.int x5)) (v6 := some (.int x6)) (v7 := some (.int x7)) (v8 := v8) hG2 hX (fun p3 c3 n3 x3 hL3 hn3 => k (s_pv (s_pv p T_MRANK nr a9 0) T_LARR 2 b9 (s_cap nr)) 2 (9 + s_cap nr) (by omega) (by omega) hx2 (s_pv_k s_pv_v) (hL1.add1 hAB (by omega)) p3 c3 n3 x3 hL3 hn3)
    rw [show (s_pv (s_pv p T_MRANK nr a9 0) T_LARR 2 b9 (s_cap nr)).1 T_MODEL 0 = p.1 T_MODEL 0 from (s_pv_n (fun z => absurd z.1 (by decide))).trans (s_pv_n (fun z => absurd z.1 (by decide)))] at h2
    rw [show (s_pv p T_MRANK nr a9 0).1 T_MODEL 0 = p.1 T_MODEL 0 from s_pv_n (fun z => absurd z.1 (by decide))]
    rw [show (s_pv p T_MRANK nr a9 0).1 T_MRANK nr = a9 from s_pv_s]
    refine w_show (S' := ((s_pv (s_pv p T_MRANK nr a9 0) T_LARR 2 b9 (s_cap nr)), (q_rkI I nr np lo m x3 (nI dv) x5 x6 x7), J, (c.1 + 2, c.2 + (9 + s_cap nr)), w)) (congrArg (fun z => ((s_pv (s_pv p T_MRANK nr a9 0) T_LARR 2 b9 (s_cap nr)), (q_rkI I nr np lo m x3 (nI dv) x5 x6 x7), J, (c.1 + 2, z), w)) (Nat.add_assoc _ _ _)) ?_
    exact h2

set_option maxRecDepth 100000 in
set_option maxHeartbeats 4000000 in
theorem c_X16_rank {X : e_XT} {d : Nat} {p : e_Sp} {I : e_I} {J : e_Jt} {c : Nat × Nat} {w : e_Rw1} {Q : e_Rt → e_SS → Prop} {nk nr np a b n : Nat} (hG : q_G p I c nk nr np a b n) (hX : (X 8).1 = 0) {x1 x2 x3 x4 x5 x6 x7 : Int32} (hL : s_La p I 2 nr) (hc : c.1 + 4 < e_xb) (ha : a + 2 + n + 100000000 < 4294960000) (hN0 : p.2.1 T_MRANK nr = false) (hnp128 : nr < 10 → np + 128 ≤ 1280) (k : ((0 ≤ x1 ∧ x1 ≤ 127) ∧ (x1 ≤ x2 ∧ x2 ≤ 127) ∧ (1 ≤ x3 ∧ x3 ≤ 9) ∧ (0 ≤ x4 ∧ x4 ≤ 2) ∧ (0 ≤ x5 ∧ x5 ≤ 5) ∧ (0 ≤ x6 ∧ x6 ≤ 5) ∧ (1 ≤ x7 ∧ x7 ≤ 99)) → nr < 10 → ∀ lo m dv, x1 = nI lo → x2 = nI (lo + m) → x4 = nI dv → lo + m ≤ 127 → dv < 3 → ∀ p1 x9 y9, x9 ≤ 2 → y9 ≤ 60 → s_xv (q_NR nr) p p1 → p1.2.1 T_MRANK nr = true → s_La p1 (q_rkI I nr np lo m x3 (nI dv) x5 x6 x7) 2 (nr + 1) → ∀ p' c' n', q_X p1 p' → q_L p' (q_st nk (nr + 1) (np + m + 1) ((q_rkI I nr np lo m x3 (nI dv) x5 x6 x7), J)).1 c' (a + x9) (b + y9) n' → n' ≤ n + (np + m + 1) → Q (.inl (some (.int (nI nr)))) (p', q_an (q_st nk (nr + 1) (np + m + 1) ((q_rkI I nr np lo m x3 (nI dv) x5 x6 x7), J)).1, (q_st nk (nr + 1) (np + m + 1) ((q_rkI I nr np lo m x3 (nI dv) x5 x6 x7), J)).2, c', w)) (kx : ¬ ((0 ≤ x1 ∧ x1 ≤ 127) ∧ (x1 ≤ x2 ∧ x2 ≤ 127) ∧ (1 ≤ x3 ∧ x3 ≤ 9) ∧ (0 ≤ x4 ∧ x4 ≤ 2) ∧ (0 ≤ x5 ∧ x5 ≤ 5) ∧ (0 ≤ x6 ∧ x6 ≤ 5) ∧ (1 ≤ x7 ∧ x7 ≤ 99)) → Q (.inl (some (.int 0))) (p, q_fl I 1, J, c, w)) (kx2 : ((0 ≤ x1 ∧ x1 ≤ 127) ∧ (x1 ≤ x2 ∧ x2 ≤ 127) ∧ (1 ≤ x3 ∧ x3 ≤ 9) ∧ (0 ≤ x4 ∧ x4 ≤ 2) ∧ (0 ≤ x5 ∧ x5 ≤ 5) ∧ (0 ≤ x6 ∧ x6 ≤ 5) ∧ (1 ≤ x7 ∧ x7 ≤ 99)) → nr = 10 → Q (.inl (some (.int 0))) (p, q_fl I 2, J, c, w)) : s_c X (d + 10) 214 [.ref (p.1 T_MODEL 0), .int x1, .int x2, .int x3, .int x4, .int x5, .int x6, .int x7] (p, I, J, c, w) Q := by
  have hM := hG.1
  have hp := hM.1
  have hk40 := hM.2.1
  have hr10 := hM.2.2.1
  have hnp := hM.2.2.2.1
  have hnp9 := hnp
  refine m_X16_rank (Nat.le_of_ble_eq_true rfl) ?_
  show s_w _ _ _ 0 _ _ _ _
  refine w_op (pc' := 1) dX16_rank_0 rfl ?_
  refine w_iconst (v := 0) dX16_rank_1 rfl ?_
  refine w_bipush (v := 127) dX16_rank_2 rfl ?_
  refine t_callS (As := [_, _, _]) dX16_rank_4 rfl rM_X16_in (by decide) rfl rfl (by decide) (Nat.le_of_ble_eq_true rfl) (c_X16_in ?_)
  show s_w _ _ _ 7 _ _ _ _
  refine w_ifeq (t := 73) dX16_rank_7 (by decide) (fun c7 => ?_) (fun c7 => ?_)
  · refine w_iconst (v := 0) dX16_rank_73 rfl ?_
    refine w_op (pc' := 76) (ll' := [_, _, _, _, _, _, _, _, _, _, _]) dX16_rank_74 rfl ?_
    refine w_op (pc' := 78) dX16_rank_76 rfl ?_
    refine w_ifne (t := 87) dX16_rank_78 (by decide) (fun c78 => ?_) (fun c78 => ?_)
    · exact absurd c78 (by decide)
    · refine w_op (pc' := 82) dX16_rank_81 rfl ?_
      refine w_iconst (v := 1) dX16_rank_82 rfl ?_
      refine t_callV (t := T_MODEL) (As := [_]) dX16_rank_83 rfl rM_X16_fails (by decide) rfl rfl (by decide) (by decide) (Nat.le_of_ble_eq_true rfl) rfl (hp.1 _ rfl) (c_X16_fails hp ?_)
      show s_w _ _ _ 86 _ _ _ _
      exact w_ireturn dX16_rank_86 ⟨rfl, kx (fun u => (of_decide_eq_false (bI_0.mp c7)) u.1)⟩
  · refine w_op (pc' := 11) dX16_rank_10 rfl ?_
    refine w_op (pc' := 12) dX16_rank_11 rfl ?_
    refine w_bipush (v := 127) dX16_rank_12 rfl ?_
    refine t_callS (As := [_, _, _]) dX16_rank_14 rfl rM_X16_in (by decide) rfl rfl (by decide) (Nat.le_of_ble_eq_true rfl) (c_X16_in ?_)
    show s_w _ _ _ 17 _ _ _ _
    refine w_ifeq (t := 73) dX16_rank_17 (by decide) (fun c17 => ?_) (fun c17 => ?_)
    · refine w_iconst (v := 0) dX16_rank_73 rfl ?_
      refine w_op (pc' := 76) (ll' := [_, _, _, _, _, _, _, _, _, _, _]) dX16_rank_74 rfl ?_
      refine w_op (pc' := 78) dX16_rank_76 rfl ?_
      refine w_ifne (t := 87) dX16_rank_78 (by decide) (fun c78 => ?_) (fun c78 => ?_)
      · exact absurd c78 (by decide)
      · refine w_op (pc' := 82) dX16_rank_81 rfl ?_
        refine w_iconst (v := 1) dX16_rank_82 rfl ?_
        refine t_callV (t := T_MODEL) (As := [_]) dX16_rank_83 rfl rM_X16_fails (by decide) rfl rfl (by decide) (by decide) (Nat.le_of_ble_eq_true rfl) rfl (hp.1 _ rfl) (c_X16_fails hp ?_)
        show s_w _ _ _ 86 _ _ _ _
        exact w_ireturn dX16_rank_86 ⟨rfl, kx (fun u => (of_decide_eq_false (bI_0.mp c17)) u.2.1)⟩
    · refine w_op (pc' := 21) dX16_rank_20 rfl ?_
      refine w_iconst (v := 1) dX16_rank_21 rfl ?_
      refine w_bipush (v := 9) dX16_rank_22 rfl ?_
      refine t_callS (As := [_, _, _]) dX16_rank_24 rfl rM_X16_in (by decide) rfl rfl (by decide) (Nat.le_of_ble_eq_true rfl) (c_X16_in ?_)
      show s_w _ _ _ 27 _ _ _ _
      refine w_ifeq (t := 73) dX16_rank_27 (by decide) (fun c27 => ?_) (fun c27 => ?_)
      · refine w_iconst (v := 0) dX16_rank_73 rfl ?_
        refine w_op (pc' := 76) (ll' := [_, _, _, _, _, _, _, _, _, _, _]) dX16_rank_74 rfl ?_
        refine w_op (pc' := 78) dX16_rank_76 rfl ?_
        refine w_ifne (t := 87) dX16_rank_78 (by decide) (fun c78 => ?_) (fun c78 => ?_)
        · exact absurd c78 (by decide)
        · refine w_op (pc' := 82) dX16_rank_81 rfl ?_
          refine w_iconst (v := 1) dX16_rank_82 rfl ?_
          refine t_callV (t := T_MODEL) (As := [_]) dX16_rank_83 rfl rM_X16_fails (by decide) rfl rfl (by decide) (by decide) (Nat.le_of_ble_eq_true rfl) rfl (hp.1 _ rfl) (c_X16_fails hp ?_)
          show s_w _ _ _ 86 _ _ _ _
          exact w_ireturn dX16_rank_86 ⟨rfl, kx (fun u => (of_decide_eq_false (bI_0.mp c27)) u.2.2.1)⟩
      · refine w_op (pc' := 32) dX16_rank_30 rfl ?_
        refine t_callS (As := [_]) dX16_rank_32 rfl rM_X16_isDivision (by decide) rfl rfl (by decide) (Nat.le_of_ble_eq_true rfl) (c_X16_isDivision ?_)
        show s_w _ _ _ 35 _ _ _ _
        refine w_ifeq (t := 73) dX16_rank_35 (by decide) (fun c35 => ?_) (fun c35 => ?_)
        · refine w_iconst (v := 0) dX16_rank_73 rfl ?_
          refine w_op (pc' := 76) (ll' := [_, _, _, _, _, _, _, _, _, _, _]) dX16_rank_74 rfl ?_
          refine w_op (pc' := 78) dX16_rank_76 rfl ?_
          refine w_ifne (t := 87) dX16_rank_78 (by decide) (fun c78 => ?_) (fun c78 => ?_)
          · exact absurd c78 (by decide)
          · refine w_op (pc' := 82) dX16_rank_81 rfl ?_
            refine w_iconst (v := 1) dX16_rank_82 rfl ?_
            refine t_callV (t := T_MODEL) (As := [_]) dX16_rank_83 rfl rM_X16_fails (by decide) rfl rfl (by decide) (by decide) (Nat.le_of_ble_eq_true rfl) rfl (hp.1 _ rfl) (c_X16_fails hp ?_)
            show s_w _ _ _ 86 _ _ _ _
            exact w_ireturn dX16_rank_86 ⟨rfl, kx (fun u => (of_decide_eq_false (bI_0.mp c35)) u.2.2.2.1)⟩
        · refine w_op (pc' := 40) dX16_rank_38 rfl ?_
          refine w_iconst (v := 0) dX16_rank_40 rfl ?_
          refine w_iconst (v := 5) dX16_rank_41 rfl ?_
          refine t_callS (As := [_, _, _]) dX16_rank_42 rfl rM_X16_in (by decide) rfl rfl (by decide) (Nat.le_of_ble_eq_true rfl) (c_X16_in ?_)
          show s_w _ _ _ 45 _ _ _ _
          refine w_ifeq (t := 73) dX16_rank_45 (by decide) (fun c45 => ?_) (fun c45 => ?_)
          · refine w_iconst (v := 0) dX16_rank_73 rfl ?_
            refine w_op (pc' := 76) (ll' := [_, _, _, _, _, _, _, _, _, _, _]) dX16_rank_74 rfl ?_
            refine w_op (pc' := 78) dX16_rank_76 rfl ?_
            refine w_ifne (t := 87) dX16_rank_78 (by decide) (fun c78 => ?_) (fun c78 => ?_)
            · exact absurd c78 (by decide)
            · refine w_op (pc' := 82) dX16_rank_81 rfl ?_
              refine w_iconst (v := 1) dX16_rank_82 rfl ?_
              refine t_callV (t := T_MODEL) (As := [_]) dX16_rank_83 rfl rM_X16_fails (by decide) rfl rfl (by decide) (by decide) (Nat.le_of_ble_eq_true rfl) rfl (hp.1 _ rfl) (c_X16_fails hp ?_)
              show s_w _ _ _ 86 _ _ _ _
              exact w_ireturn dX16_rank_86 ⟨rfl, kx (fun u => (of_decide_eq_false (bI_0.mp c45)) u.2.2.2.2.1)⟩
          · refine w_op (pc' := 50) dX16_rank_48 rfl ?_
            refine w_iconst (v := 0) dX16_rank_50 rfl ?_
            refine w_iconst (v := 5) dX16_rank_51 rfl ?_
            refine t_callS (As := [_, _, _]) dX16_rank_52 rfl rM_X16_in (by decide) rfl rfl (by decide) (Nat.le_of_ble_eq_true rfl) (c_X16_in ?_)
            show s_w _ _ _ 55 _ _ _ _
            refine w_ifeq (t := 73) dX16_rank_55 (by decide) (fun c55 => ?_) (fun c55 => ?_)
            · refine w_iconst (v := 0) dX16_rank_73 rfl ?_
              refine w_op (pc' := 76) (ll' := [_, _, _, _, _, _, _, _, _, _, _]) dX16_rank_74 rfl ?_
              refine w_op (pc' := 78) dX16_rank_76 rfl ?_
              refine w_ifne (t := 87) dX16_rank_78 (by decide) (fun c78 => ?_) (fun c78 => ?_)
              · exact absurd c78 (by decide)
              · refine w_op (pc' := 82) dX16_rank_81 rfl ?_
                refine w_iconst (v := 1) dX16_rank_82 rfl ?_
                refine t_callV (t := T_MODEL) (As := [_]) dX16_rank_83 rfl rM_X16_fails (by decide) rfl rfl (by decide) (by decide) (Nat.le_of_ble_eq_true rfl) rfl (hp.1 _ rfl) (c_X16_fails hp ?_)
                show s_w _ _ _ 86 _ _ _ _
                exact w_ireturn dX16_rank_86 ⟨rfl, kx (fun u => (of_decide_eq_false (bI_0.mp c55)) u.2.2.2.2.2.1)⟩
            · refine w_op (pc' := 60) dX16_rank_58 rfl ?_
              refine w_iconst (v := 1) dX16_rank_60 rfl ?_
              refine w_bipush (v := 99) dX16_rank_61 rfl ?_
              refine t_callS (As := [_, _, _]) dX16_rank_63 rfl rM_X16_in (by decide) rfl rfl (by decide) (Nat.le_of_ble_eq_true rfl) (c_X16_in ?_)
              show s_w _ _ _ 66 _ _ _ _
              refine w_ifeq (t := 73) dX16_rank_66 (by decide) (fun c66 => ?_) (fun c66 => ?_)
              · refine w_iconst (v := 0) dX16_rank_73 rfl ?_
                refine w_op (pc' := 76) (ll' := [_, _, _, _, _, _, _, _, _, _, _]) dX16_rank_74 rfl ?_
                refine w_op (pc' := 78) dX16_rank_76 rfl ?_
                refine w_ifne (t := 87) dX16_rank_78 (by decide) (fun c78 => ?_) (fun c78 => ?_)
                · exact absurd c78 (by decide)
                · refine w_op (pc' := 82) dX16_rank_81 rfl ?_
                  refine w_iconst (v := 1) dX16_rank_82 rfl ?_
                  refine t_callV (t := T_MODEL) (As := [_]) dX16_rank_83 rfl rM_X16_fails (by decide) rfl rfl (by decide) (by decide) (Nat.le_of_ble_eq_true rfl) rfl (hp.1 _ rfl) (c_X16_fails hp ?_)
                  show s_w _ _ _ 86 _ _ _ _
                  exact w_ireturn dX16_rank_86 ⟨rfl, kx (fun u => (of_decide_eq_false (bI_0.mp c66)) u.2.2.2.2.2.2)⟩
              · refine w_iconst (v := 1) dX16_rank_69 rfl ?_
                refine w_goto (t := 74) dX16_rank_70 (by decide) ?_
                refine w_op (pc' := 76) (ll' := [_, _, _, _, _, _, _, _, _, _, _]) dX16_rank_74 rfl ?_
                refine w_op (pc' := 78) dX16_rank_76 rfl ?_
                refine w_ifne (t := 87) dX16_rank_78 (by decide) (fun c78 => ?_) (fun c78 => ?_)
                · have hall : ((0 ≤ x1 ∧ x1 ≤ 127) ∧ (x1 ≤ x2 ∧ x2 ≤ 127) ∧ (1 ≤ x3 ∧ x3 ≤ 9) ∧ (0 ≤ x4 ∧ x4 ≤ 2) ∧ (0 ≤ x5 ∧ x5 ≤ 5) ∧ (0 ≤ x6 ∧ x6 ≤ 5) ∧ (1 ≤ x7 ∧ x7 ≤ 99)) := ⟨(of_decide_eq_true (bI_n0.mp c7)), (of_decide_eq_true (bI_n0.mp c17)), (of_decide_eq_true (bI_n0.mp c27)), (of_decide_eq_true (bI_n0.mp c35)), (of_decide_eq_true (bI_n0.mp c45)), (of_decide_eq_true (bI_n0.mp c55)), (of_decide_eq_true (bI_n0.mp c66))⟩
                  have h7 := hall
                  refine w_op (pc' := 88) dX16_rank_87 rfl ?_
                  refine t_getG0 (G := g_m_list0) dX16_rank_88 rfl rfl (by decide) rfl (fun _ => rfl) (hp.1 _ rfl) ?_
                  refine t_callV (t := T_LIST) (As := []) dX16_rank_91 rfl rM_Jx4a65c_size_8abf5 (by decide) rfl rfl (by decide) (by decide) (Nat.le_of_ble_eq_true rfl) rfl (hp.2 _ (by decide)) (c_size (hp.2 _ (by decide)) ?_)
                  show s_w _ _ _ 94 _ _ _ _
                  rw [hr10.2]
                  refine w_bipush (v := 10) dX16_rank_94 rfl ?_
                  refine w_icmpne (t := 105) dX16_rank_96 (by decide) (fun c96 => ?_) (fun c96 => ?_)
                  · have h10 : nr < 10 := by
                      rcases Nat.lt_or_ge nr 10 with z | z
                      · exact z
                      · exact absurd (show nI nr = 10 by rw [show nr = 10 by omega]; rfl) c96
                    have h128 := hnp128 h10
                    obtain ⟨lo, hlo, rfl⟩ := q_rg (m := 127) h7.1.1 h7.1.2 (by decide)
                    obtain ⟨hi, hhi, rfl⟩ := q_rg (m := 127) (Int32.le_trans h7.1.1 h7.2.1.1) h7.2.1.2 (by decide)
                    have hlh : lo ≤ hi := (nI_leI (by omega) (by omega)).mp h7.2.1.1
                    obtain ⟨m, rfl⟩ : ∃ m, hi = lo + m := ⟨hi - lo, by omega⟩
                    obtain ⟨dv, hd3, rfl⟩ := q_nat3 h7.2.2.2.1
                    have hlm : lo + m ≤ 127 := hhi
                    refine t_new dX16_rank_105 rfl (show c.1 < e_xb by omega) (fun a9 ha9 => ?_)
                    refine w_op (pc' := 109) dX16_rank_108 rfl ?_
                    refine w_op (pc' := 110) dX16_rank_109 rfl ?_
                    refine w_op (pc' := 111) dX16_rank_110 rfl ?_
                    refine w_op (pc' := 112) dX16_rank_111 rfl ?_
                    refine w_op (pc' := 114) dX16_rank_112 rfl ?_
                    refine w_op (pc' := 116) dX16_rank_114 rfl ?_
                    refine w_op (pc' := 118) dX16_rank_116 rfl ?_
                    refine w_op (pc' := 120) dX16_rank_118 rfl ?_
                    refine w_op (pc' := 121) dX16_rank_120 rfl ?_
                    refine t_getI (F := f_m_pipes) dX16_rank_121 rfl rfl (by decide) rfl ⟨rfl, fun _ => rfl⟩ (hp.1 _ rfl) ?_
                    refine t_callI (As := [_, _, _, _, _, _, _, _]) dX16_rank_124 rfl rM_X15_init (by decide) (by decide) rfl rfl rfl (Nat.le_of_ble_eq_true rfl) (c_X15_init ?_)
                    refine ⟨rfl, ?_⟩
                    refine w_op (pc' := 129) (ll' := [_, _, _, _, _, _, _, _, _, _, _]) dX16_rank_127 rfl ?_
                    refine w_iconst (v := 0) dX16_rank_129 rfl ?_
                    refine w_op (pc' := 132) (ll' := [_, _, _, _, _, _, _, _, _, _, _]) dX16_rank_130 rfl ?_
                    refine w_ghost (S' := ((s_pv p T_MRANK nr a9 0), (s_IMRANK I nr (nI lo) (nI (lo + m)) x3 (nI dv) x5 x6 x7 (nI np) 0), J, (c.1 + 1, c.2 + 9), w)) (fun h hs => hs.pubMRANK hN0 ha9.1 rfl rfl rfl rfl rfl rfl rfl (by show I f_m_pipes 0 = nI np; exact hnp9.2) rfl) ?_
                    have e1 : (s_pv p T_MRANK nr a9 0).1 T_MRANK nr = a9 := s_pv_s
                    have e2 : (s_pv p T_MRANK nr a9 0).1 T_MODEL 0 = p.1 T_MODEL 0 := s_pv_n (fun z => absurd z.1 (by decide))
                    have h1280 : np + m + 1 ≤ 1280 := by omega
                    have hp1 : s_ok (s_pv p T_MRANK nr a9 0) := ⟨fun t ht => (s_pv_nv (fun z => by rw [z.1] at ht; exact absurd ht (by decide))).trans (hp.1 t ht), fun l hl => (s_pv_nv (fun z => absurd z.1 (by decide))).trans (hp.2 l hl)⟩
                    have hN : (s_IMRANK I nr (nI lo) (nI (lo + m)) x3 (nI dv) x5 x6 x7 (nI np) 0) f_mr_highest nr - (s_IMRANK I nr (nI lo) (nI (lo + m)) x3 (nI dv) x5 x6 x7 (nI np) 0) f_mr_lowest nr + 1 = nI (m + 1) := by
                      rw [show (s_IMRANK I nr (nI lo) (nI (lo + m)) x3 (nI dv) x5 x6 x7 (nI np) 0) f_mr_highest nr = nI (lo + m) from by unfold s_IMRANK; repeat (first | rw [s_up_s] | rw [s_up_F (by decide)])]
                      rw [show (s_IMRANK I nr (nI lo) (nI (lo + m)) x3 (nI dv) x5 x6 x7 (nI np) 0) f_mr_lowest nr = nI lo from by unfold s_IMRANK; repeat (first | rw [s_up_s] | rw [s_up_F (by decide)])]
                      rw [nI_sub (by omega), show lo + m - lo = m by omega, nI_1]
                    have h2 := l1_X16_rank (X := X) (d := d) (p := (s_pv p T_MRANK nr a9 0)) (I := (s_IMRANK I nr (nI lo) (nI (lo + m)) x3 (nI dv) x5 x6 x7 (nI np) 0)) (J := J) (c := (c.1 + 1, c.2 + 9)) (w := w) (Q := Q) (nk := nk) (nr := nr) (np := np) (m := m) (v1 := some (.int (nI lo))) (v2 := some (.int (nI (lo + m)))) (v3 := some (.int x3)) (v4 := some (.int (nI dv))) (v5 := some (.int x5)) (v6 := some (.int x6)) (v7 := some (.int x7)) (v8 := some (.int 1)) hp1 s_pv_v ((congrFun (s_IMRANK_p (by decide)) 0).trans hnp9.2) ((congrFun (s_IMRANK_p (by decide)) 2).trans hr10.2) h10 h1280 hN (fun o10 => l2_X16_rank hG hX h10 hlm h1280 hd3 hL hc ha hN0 (k hall h10 lo m dv rfl rfl rfl hlm hd3)) (m + 2) 0 (Nat.zero_le _) (by omega)
                    rw [e1, e2, nI_0, q_rkf_0] at h2
                    exact h2
                  · refine w_op (pc' := 100) dX16_rank_99 rfl ?_
                    refine w_iconst (v := 2) dX16_rank_100 rfl ?_
                    refine t_callV (t := T_MODEL) (As := [_]) dX16_rank_101 rfl rM_X16_fails (by decide) rfl rfl (by decide) (by decide) (Nat.le_of_ble_eq_true rfl) rfl (hp.1 _ rfl) (c_X16_fails hp ?_)
                    show s_w _ _ _ 104 _ _ _ _
                    exact w_ireturn dX16_rank_104 ⟨rfl, kx2 hall ((nI_eq (b := 10) (by omega) (by decide)).mp c96)⟩
                · exact absurd c78 (by decide)

