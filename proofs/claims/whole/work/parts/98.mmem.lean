/-! 98: the second implementation's memory (printed by wip/whole/p98.py) -/
def q_ps (x y : Int32) : Bool := if x = -1 then decide (0 ≤ y ∧ y ≤ 7) else decide (0 ≤ x ∧ x ≤ 2) && decide (0 ≤ y ∧ y ≤ 3)
def q_kp (I : e_I) (x y : Int32) : Nat := if x = -1 then (8 * I f_m_level 0 + y).toNatClampNeg else 32 + (4 * (3 * I f_m_level 0 + x) + y).toNatClampNeg
/-- what is kept stands -/
def q_M (p : e_Sp) (I : e_I) : Prop := (∀ j, j < 80 → p.2.1 T_MKEEP j = true) ∧ I f_l_size 6 = nI 32 ∧ I f_l_size 7 = nI 48 ∧ q_lv I
theorem q_lv_n {I : e_I} (h : q_lv I) : ∃ l, l < 4 ∧ I f_m_level 0 = nI l := by
  obtain ⟨l, hl, e⟩ := nI_of (Int32.not_lt.mpr h.1)
  refine ⟨l, ?_, e⟩
  have := h.2.2
  rw [e, nI_clamp hl] at this
  exact this
theorem q_rg {x : Int32} {m : Nat} (h0 : 0 ≤ x) (h1 : x ≤ nI m) (hm : m < 1000) : ∃ j, j ≤ m ∧ x = nI j := by
  obtain ⟨j, hj, e⟩ := nI_of (Int32.not_lt.mpr h0)
  rw [e] at h1
  exact ⟨j, (nI_leI hj (by omega)).mp h1, e⟩
theorem q_k6 {I : e_I} {y : Int32} (h : q_lv I) (h0 : 0 ≤ y ∧ y ≤ 7) : ∃ j, j < 32 ∧ 8 * I f_m_level 0 + y = nI j := by
  obtain ⟨l, hl, e⟩ := q_lv_n h
  obtain ⟨v, hv, rfl⟩ := q_rg (m := 7) h0.1 h0.2 (by decide)
  refine ⟨8 * l + v, by omega, ?_⟩
  rw [e, ← nI_add, ← pk_mul]; rfl
theorem q_k7 {I : e_I} {x y : Int32} (h : q_lv I) (hx : 0 ≤ x ∧ x ≤ 2) (h0 : 0 ≤ y ∧ y ≤ 3) : ∃ j, j < 48 ∧ 4 * (3 * I f_m_level 0 + x) + y = nI j := by
  obtain ⟨l, hl, e⟩ := q_lv_n h
  obtain ⟨v, hv, rfl⟩ := q_rg (m := 3) h0.1 h0.2 (by decide)
  obtain ⟨u, hu, rfl⟩ := q_rg (m := 2) hx.1 hx.2 (by decide)
  refine ⟨4 * (3 * l + u) + v, by omega, ?_⟩
  rw [e, ← nI_add, ← pk_mul, ← nI_add, ← pk_mul]; rfl
theorem q_ixr {I : e_I} {x : Int32} (h : q_lv I) (h0 : 0 ≤ x ∧ x ≤ 3) : s_ix (4 * I f_m_level 0 + x) (4 * I f_m_level 0 + x).toNatClampNeg 16 := by
  obtain ⟨l, hl, e⟩ := q_lv_n h
  obtain ⟨v, hv, rfl⟩ := q_rg (m := 3) h0.1 h0.2 (by decide)
  have e1 : 4 * I f_m_level 0 + nI v = nI (4 * l + v) := by rw [e, ← nI_add, ← pk_mul]; rfl
  rw [e1, nI_clamp (by omega)]
  exact s_ix.nI (by omega) (by decide)
abbrev q_ri (I : e_I) (x : Int32) : Nat := (4 * I f_m_level 0 + x).toNatClampNeg
theorem q_kp_lt {I : e_I} {x y : Int32} (h : q_lv I) (hq : q_ps x y = true) : q_kp I x y < 80 := by
  unfold q_ps at hq
  unfold q_kp
  split at hq
  · rename_i z
    rw [if_pos z]
    obtain ⟨j, hj, e⟩ := q_k6 h (of_decide_eq_true hq)
    rw [e, nI_clamp (by omega)]; omega
  · rename_i z
    rw [if_neg z]
    rw [Bool.and_eq_true] at hq
    obtain ⟨j, hj, e⟩ := q_k7 h (of_decide_eq_true hq.1) (of_decide_eq_true hq.2)
    rw [e, nI_clamp (by omega)]; omega
def q_b0 (y : Int64) (i : Nat) : Bool := decide (lg_cmp ((y >>> ((nI i).toInt64 &&& 63)) &&& 1) 0 = 0)
def q_keJ (kn dn : Nat) (I : e_I) (j i : Nat) (J : e_Jt) : e_Jt := s_up (s_up J kn j (J kn j ||| s_b1 i)) dn j (s_up J kn j (J kn j ||| s_b1 i) dn j ||| if I f_mk_isDrawn i = 0 then 0 else s_b1 i)
/-- knobs move as kept -/
def q_mvS (y z : Int64) (i : Nat) (a : e_I × Int32) : e_I × Int32 := if q_b0 y i = false ∧ a.1 f_mk_isLocked i = 0 ∧ ¬ a.1 f_mk_isDrawn i = bI (s_bt z i) then (s_up a.1 f_mk_isDrawn i (bI (s_bt z i)), a.2 + 1) else a
def q_mt (nk : Nat) (y z : Int64) (I : e_I) : e_I × Int32 := s_run (q_mvS y z) 0 nk (I, 0)
theorem s_eqN.qmvS {y z : Int64} (i : Nat) (a : e_I × Int32) : s_eqN [f_mk_isDrawn] a.1 (q_mvS y z i a).1 := by
  unfold q_mvS
  split
  · exact s_eqN.up (by decide)
  · exact s_eqN.rfl'
theorem s_eqN.qmt {nk : Nat} {y z : Int64} {I : e_I} : s_eqN [f_mk_isDrawn] I (q_mt nk y z I).1 := s_eqN.runP s_eqN.qmvS _ _ _
def q_seF (I : e_I) (x : Int32) (j i : Nat) (J : e_Jt) : e_Jt := if (if x = -1 then ¬ I f_mk_isIn i = 0 else I f_mk_kind i = 115 ∧ I f_mk_division i = x) then q_keJ j_mg_knobs j_mg_drawn I j i J else J

set_option maxRecDepth 100000 in
set_option maxHeartbeats 800000 in
theorem c_X16_isPiston {X : e_XT} {d : Nat} {p : e_Sp} {I : e_I} {J : e_Jt} {c : Nat × Nat} {w : e_Rw1} {Q : e_Rt → e_SS → Prop} {x y : Int32} (k : Q (.inl (some (.int (bI (q_ps x y))))) (p, I, J, c, w)) : s_c X (d + 2) 292 [.int x, .int y] (p, I, J, c, w) Q := by
  refine m_X16_isPiston (Nat.le_of_ble_eq_true rfl) ?_
  show s_w _ _ _ 0 _ _ _ _
  refine w_op (pc' := 1) dX16_isPiston_0 rfl ?_
  refine w_iconst (v := (-1)) dX16_isPiston_1 rfl ?_
  refine w_icmpne (t := 15) dX16_isPiston_2 (by decide) (fun c2 => ?_) (fun c2 => ?_)
  · refine w_op (pc' := 16) dX16_isPiston_15 rfl ?_
    refine t_callS (As := [_]) dX16_isPiston_16 rfl rM_X16_isDivision (by decide) rfl rfl (by decide) (Nat.le_of_ble_eq_true rfl) (c_X16_isDivision ?_)
    show s_w _ _ _ 19 _ _ _ _
    refine w_ifeq (t := 35) dX16_isPiston_19 (by decide) (fun c19 => ?_) (fun c19 => ?_)
    · refine w_iconst (v := 0) dX16_isPiston_35 rfl ?_
      exact w_ireturn dX16_isPiston_36 ⟨s_rcb (by first | exact Or.inl rfl | exact Or.inr rfl | exact bI_or _), s_eqi (by unfold q_ps; grind) k⟩
    · refine w_op (pc' := 23) dX16_isPiston_22 rfl ?_
      refine w_iconst (v := 0) dX16_isPiston_23 rfl ?_
      refine w_iconst (v := 3) dX16_isPiston_24 rfl ?_
      refine t_callS (As := [_, _, _]) dX16_isPiston_25 rfl rM_X16_in (by decide) rfl rfl (by decide) (Nat.le_of_ble_eq_true rfl) (c_X16_in ?_)
      show s_w _ _ _ 28 _ _ _ _
      refine w_ifeq (t := 35) dX16_isPiston_28 (by decide) (fun c28 => ?_) (fun c28 => ?_)
      · refine w_iconst (v := 0) dX16_isPiston_35 rfl ?_
        exact w_ireturn dX16_isPiston_36 ⟨s_rcb (by first | exact Or.inl rfl | exact Or.inr rfl | exact bI_or _), s_eqi (by unfold q_ps; grind) k⟩
      · refine w_iconst (v := 1) dX16_isPiston_31 rfl ?_
        refine w_goto (t := 36) dX16_isPiston_32 (by decide) ?_
        exact w_ireturn dX16_isPiston_36 ⟨s_rcb (by first | exact Or.inl rfl | exact Or.inr rfl | exact bI_or _), s_eqi (by unfold q_ps; grind) k⟩
  · refine w_op (pc' := 6) dX16_isPiston_5 rfl ?_
    refine w_iconst (v := 0) dX16_isPiston_6 rfl ?_
    refine w_bipush (v := 7) dX16_isPiston_7 rfl ?_
    refine t_callS (As := [_, _, _]) dX16_isPiston_9 rfl rM_X16_in (by decide) rfl rfl (by decide) (Nat.le_of_ble_eq_true rfl) (c_X16_in ?_)
    show s_w _ _ _ 12 _ _ _ _
    refine w_goto (t := 36) dX16_isPiston_12 (by decide) ?_
    exact w_ireturn dX16_isPiston_36 ⟨s_rcb (by first | exact Or.inl rfl | exact Or.inr rfl | exact bI_or _), s_eqi (by unfold q_ps; grind) k⟩

set_option maxRecDepth 100000 in
set_option maxHeartbeats 800000 in
theorem c_X16_keeping {X : e_XT} {d : Nat} {p : e_Sp} {I : e_I} {J : e_Jt} {c : Nat × Nat} {w : e_Rw1} {Q : e_Rt → e_SS → Prop} (hp : s_ok p) (hKM : q_M p I) {x y : Int32} (hq : q_ps x y = true) (k : Q (.inl (some (.ref (p.1 T_MKEEP (q_kp I x y))))) (p, I, J, c, w)) : s_c X (d + 3) 293 [.ref (p.1 T_MODEL 0), .int x, .int y] (p, I, J, c, w) Q := by
  refine m_X16_keeping (Nat.le_of_ble_eq_true rfl) ?_
  show s_w _ _ _ 0 _ _ _ _
  refine w_op (pc' := 1) dX16_keeping_0 rfl ?_
  refine w_iconst (v := (-1)) dX16_keeping_1 rfl ?_
  refine w_icmpne (t := 27) dX16_keeping_2 (by decide) (fun c2 => ?_) (fun c2 => ?_)
  · have h9 : (0 ≤ x ∧ x ≤ 2) ∧ (0 ≤ y ∧ y ≤ 3) := by unfold q_ps at hq; rw [if_neg (by grind), Bool.and_eq_true] at hq; exact ⟨of_decide_eq_true hq.1, of_decide_eq_true hq.2⟩
    obtain ⟨j, hj, ej⟩ := q_k7 hKM.2.2.2 h9.1 h9.2
    have hv := hKM.1 (32 + j) (by omega)
    have ek : q_kp I x y = 32 + j := by unfold q_kp; rw [if_neg (by grind), ej, nI_clamp (by omega)]
    refine w_op (pc' := 28) dX16_keeping_27 rfl ?_
    refine t_getG0 (G := g_m_list5) dX16_keeping_28 rfl rfl (by decide) rfl (fun _ => rfl) (hp.1 _ rfl) ?_
    refine w_iconst (v := 4) dX16_keeping_31 rfl ?_
    refine w_iconst (v := 3) dX16_keeping_32 rfl ?_
    refine w_op (pc' := 34) dX16_keeping_33 rfl ?_
    refine t_getI (F := f_m_level) dX16_keeping_34 rfl rfl (by decide) rfl ⟨rfl, fun _ => rfl⟩ (hp.1 _ rfl) ?_
    refine w_op (pc' := 38) dX16_keeping_37 rfl ?_
    refine w_op (pc' := 39) dX16_keeping_38 rfl ?_
    refine w_op (pc' := 40) dX16_keeping_39 rfl ?_
    refine w_op (pc' := 41) dX16_keeping_40 rfl ?_
    refine w_op (pc' := 42) dX16_keeping_41 rfl ?_
    refine w_op (pc' := 43) dX16_keeping_42 rfl ?_
    rw [ej]
    refine t_callV (t := T_LIST) (As := [_]) dX16_keeping_43 rfl rM_Jx4a65c_get_915e3 (by decide) rfl rfl (by decide) (by decide) (Nat.le_of_ble_eq_true rfl) rfl (hp.2 _ (by decide)) (c_get7 hp hKM.2.2.1 (by omega) hj ?_)
    show s_w _ _ _ 46 _ _ _ _
    refine t_chk dX16_keeping_46 rfl rfl (by decide) (by assumption) ?_
    exact w_areturn dX16_keeping_49 ⟨rfl, by rw [ek] at k; exact k⟩
  · have h9 : 0 ≤ y ∧ y ≤ 7 := by unfold q_ps at hq; rw [if_pos (by grind)] at hq; exact of_decide_eq_true hq
    obtain ⟨j, hj, ej⟩ := q_k6 hKM.2.2.2 h9
    have hv := hKM.1 j (by omega)
    have ek : q_kp I x y = j := by unfold q_kp; rw [if_pos (by grind), ej, nI_clamp (by omega)]
    refine w_op (pc' := 6) dX16_keeping_5 rfl ?_
    refine t_getG0 (G := g_m_list4) dX16_keeping_6 rfl rfl (by decide) rfl (fun _ => rfl) (hp.1 _ rfl) ?_
    refine w_bipush (v := 8) dX16_keeping_9 rfl ?_
    refine w_op (pc' := 12) dX16_keeping_11 rfl ?_
    refine t_getI (F := f_m_level) dX16_keeping_12 rfl rfl (by decide) rfl ⟨rfl, fun _ => rfl⟩ (hp.1 _ rfl) ?_
    refine w_op (pc' := 16) dX16_keeping_15 rfl ?_
    refine w_op (pc' := 17) dX16_keeping_16 rfl ?_
    refine w_op (pc' := 18) dX16_keeping_17 rfl ?_
    rw [ej]
    refine t_callV (t := T_LIST) (As := [_]) dX16_keeping_18 rfl rM_Jx4a65c_get_915e3 (by decide) rfl rfl (by decide) (by decide) (Nat.le_of_ble_eq_true rfl) rfl (hp.2 _ (by decide)) (c_get6 hp hKM.2.1 (by omega) hj ?_)
    show s_w _ _ _ 21 _ _ _ _
    refine t_chk dX16_keeping_21 rfl rfl (by decide) (by assumption) ?_
    refine w_goto (t := 49) dX16_keeping_24 (by decide) ?_
    exact w_areturn dX16_keeping_49 ⟨rfl, by rw [ek] at k; exact k⟩

set_option maxRecDepth 100000 in
set_option maxHeartbeats 800000 in
theorem c_X16_keeps {X : e_XT} {d : Nat} {p : e_Sp} {I : e_I} {J : e_Jt} {c : Nat × Nat} {w : e_Rw1} {Q : e_Rt → e_SS → Prop} {nk nr np : Nat} (hM : q_D p I nk nr np) {j i : Nat} (hv : p.2.1 T_MKEEP j = true) (hi : i < nk) (k : Q (.inl none) (p, I, q_keJ j_mg_knobs j_mg_drawn I j i J, c, w)) : s_c X (d + 3) 294 [.ref (p.1 T_MODEL 0), .ref (p.1 T_MKEEP j), .int (nI i)] (p, I, J, c, w) Q := by
  have hp := hM.1
  have hk40 := hM.2.1
  have hr10 := hM.2.2.1
  have hv2 := (hM.2.2.2.2.1 i hi).1
  refine m_X16_keeps (Nat.le_of_ble_eq_true rfl) ?_
  show s_w _ _ _ 0 _ _ _ _
  refine w_op (pc' := 1) dX16_keeps_0 rfl ?_
  refine w_op (pc' := 2) dX16_keeps_1 rfl ?_
  refine t_getJ (F := j_mg_knobs) dX16_keeps_2 rfl rfl (by decide) rfl (fun _ => rfl) (by assumption) ?_
  refine w_op (pc' := 6) dX16_keeps_5 rfl ?_
  refine w_op (pc' := 7) dX16_keeps_6 rfl ?_
  refine w_op (pc' := 8) dX16_keeps_7 rfl ?_
  refine w_op (pc' := 9) dX16_keeps_8 rfl ?_
  refine t_putJ (F := j_mg_knobs) dX16_keeps_9 rfl rfl (by decide) rfl rfl (Or.inl rfl) (by assumption) ?_
  refine w_op (pc' := 13) dX16_keeps_12 rfl ?_
  refine w_op (pc' := 14) dX16_keeps_13 rfl ?_
  refine t_getJ (F := j_mg_drawn) dX16_keeps_14 rfl rfl (by decide) rfl (fun _ => rfl) (by assumption) ?_
  refine w_op (pc' := 18) dX16_keeps_17 rfl ?_
  refine t_getG0 (G := g_m_list1) dX16_keeps_18 rfl rfl (by decide) rfl (fun _ => rfl) (hp.1 _ rfl) ?_
  refine w_op (pc' := 22) dX16_keeps_21 rfl ?_
  refine t_callV (t := T_LIST) (As := [_]) dX16_keeps_22 rfl rM_Jx4a65c_get_915e3 (by decide) rfl rfl (by decide) (by decide) (Nat.le_of_ble_eq_true rfl) rfl (hp.2 _ (by decide)) (c_get3 hp hk40.2 (by omega) hi ?_)
  show s_w _ _ _ 25 _ _ _ _
  refine t_chk dX16_keeps_25 rfl rfl (by decide) (by assumption) ?_
  refine t_getI (F := f_mk_isDrawn) dX16_keeps_28 rfl rfl (by decide) rfl ⟨rfl, fun _ => rfl⟩ (by assumption) ?_
  refine w_ifeq (t := 40) dX16_keeps_31 (by decide) (fun c31 => ?_) (fun c31 => ?_)
  · refine w_op (pc' := 41) dX16_keeps_40 rfl ?_
    refine w_op (pc' := 42) dX16_keeps_41 rfl ?_
    refine t_putJ (F := j_mg_drawn) dX16_keeps_42 rfl rfl (by decide) rfl rfl (Or.inl rfl) (by assumption) ?_
    exact w_return dX16_keeps_45 ⟨rfl, (by unfold q_keJ at k; rw [if_pos c31] at k; exact k)⟩
  · refine w_op (pc' := 35) dX16_keeps_34 rfl ?_
    refine w_op (pc' := 36) dX16_keeps_35 rfl ?_
    refine w_op (pc' := 37) dX16_keeps_36 rfl ?_
    refine w_goto (t := 41) dX16_keeps_37 (by decide) ?_
    refine w_op (pc' := 42) dX16_keeps_41 rfl ?_
    refine t_putJ (F := j_mg_drawn) dX16_keeps_42 rfl rfl (by decide) rfl rfl (Or.inl rfl) (by assumption) ?_
    exact w_return dX16_keeps_45 ⟨rfl, (by unfold q_keJ at k; rw [if_neg c31] at k; exact k)⟩

set_option maxRecDepth 100000 in
set_option maxHeartbeats 800000 in
theorem l_X16_moves_ {X : e_XT} {d : Nat} {p : e_Sp} {I : e_I} {J : e_Jt} {c : Nat × Nat} {w : e_Rw1} {Q : e_Rt → e_SS → Prop} {nk nr np : Nat} (hM : q_D p I nk nr np) {j : Nat} (hv : p.2.1 T_MKEEP j = true) {y z : Int64} (hy : J j_mg_knobs j = y) (hz : J j_mg_drawn j = z) {R : e_I × Int32} (k : Q (.inl (some (.int R.2))) (p, R.1, J, c, w)) : ∀ (n : Nat) (i : Nat) (I1 : e_I) (u : Int32) (o4 o5 : Option Value), (h1 : i ≤ nk) → (e : s_eqN [f_mk_isDrawn] I I1) → (hr : s_run (q_mvS y z) i (nk - i) (I1, u) = R) → (hn : nk - i < n) → s_w X (d + 3) K_X16_moves_ 4 [some (.ref (p.1 T_MODEL 0)), some (.ref (p.1 T_MKEEP j)), some (.int u), some (.int (nI i)), o4, o5] [] (p, I1, J, c, w) (fun r S' => e_rcr (some FieldType.int) r = true ∧ Q r S') := by
  intro n
  induction n with
  | zero =>
    intro i I1 u o4 o5 h1 e hr hn
    exact absurd hn (Nat.not_lt_zero _)
  | succ n ih =>
    intro i I1 u o4 o5 h1 e hr hn
    have hM1 := hM.eqN e (by decide)
    have hp := hM1.1
    have hk40 := hM1.2.1
    refine w_op (pc' := 5) dX16_moves__4 rfl ?_
    refine w_op (pc' := 6) dX16_moves__5 rfl ?_
    refine t_getG0 (G := g_m_list1) dX16_moves__6 rfl rfl (by decide) rfl (fun _ => rfl) (hp.1 _ rfl) ?_
    refine t_callV (t := T_LIST) (As := []) dX16_moves__9 rfl rM_Jx4a65c_size_8abf5 (by decide) rfl rfl (by decide) (by decide) (Nat.le_of_ble_eq_true rfl) rfl (hp.2 _ (by decide)) (c_size (hp.2 _ (by decide)) ?_)
    show s_w _ _ _ 12 _ _ _ _
    rw [hk40.2]
    refine w_icmpge (t := 98) dX16_moves__12 (by decide) (fun c12 => ?_) (fun c12 => ?_)
    · have hi := (nI_leI (by omega) (by omega)).mp c12
      rw [s_run_z hi] at hr
      refine w_op (pc' := 99) dX16_moves__98 rfl ?_
      exact w_ireturn dX16_moves__99 ⟨rfl, by subst hr; exact k⟩
    · have hi : i < nk := Nat.lt_of_not_le (fun t => c12 ((nI_leI (by omega) (by omega)).mpr t))
      have hv2 := (hM1.2.2.2.2.1 i hi).1
      refine w_op (pc' := 16) dX16_moves__15 rfl ?_
      refine t_getG0 (G := g_m_list1) dX16_moves__16 rfl rfl (by decide) rfl (fun _ => rfl) (hp.1 _ rfl) ?_
      refine w_op (pc' := 20) dX16_moves__19 rfl ?_
      refine t_callV (t := T_LIST) (As := [_]) dX16_moves__20 rfl rM_Jx4a65c_get_915e3 (by decide) rfl rfl (by decide) (by decide) (Nat.le_of_ble_eq_true rfl) rfl (hp.2 _ (by decide)) (c_get3 hp hk40.2 (by omega) hi ?_)
      show s_w _ _ _ 23 _ _ _ _
      refine t_chk dX16_moves__23 rfl rfl (by decide) (by assumption) ?_
      refine w_op (pc' := 28) (ll' := [_, _, _, _, _, _]) dX16_moves__26 rfl ?_
      refine w_op (pc' := 29) dX16_moves__28 rfl ?_
      refine t_getJ (F := j_mg_drawn) dX16_moves__29 rfl rfl (by decide) rfl (fun _ => rfl) (by assumption) ?_
      rw [hz]
      refine w_op (pc' := 33) dX16_moves__32 rfl ?_
      refine w_op (pc' := 34) dX16_moves__33 rfl ?_
      refine w_op (pc' := 35) dX16_moves__34 rfl ?_
      refine w_op (pc' := 36) dX16_moves__35 rfl ?_
      refine w_op (pc' := 37) dX16_moves__36 rfl ?_
      refine w_op (pc' := 38) dX16_moves__37 rfl ?_
      refine w_ifne (t := 45) dX16_moves__38 (by decide) (fun c38 => ?_) (fun c38 => ?_)
      · refine w_iconst (v := 0) dX16_moves__45 rfl ?_
        refine w_op (pc' := 48) (ll' := [_, _, _, _, _, _]) dX16_moves__46 rfl ?_
        refine w_op (pc' := 49) dX16_moves__48 rfl ?_
        refine t_getJ (F := j_mg_knobs) dX16_moves__49 rfl rfl (by decide) rfl (fun _ => rfl) (by assumption) ?_
        rw [hy]
        refine w_op (pc' := 53) dX16_moves__52 rfl ?_
        refine w_op (pc' := 54) dX16_moves__53 rfl ?_
        refine w_op (pc' := 55) dX16_moves__54 rfl ?_
        refine w_op (pc' := 56) dX16_moves__55 rfl ?_
        refine w_op (pc' := 57) dX16_moves__56 rfl ?_
        refine w_op (pc' := 58) dX16_moves__57 rfl ?_
        refine w_ifeq (t := 92) dX16_moves__58 (by decide) (fun c58 => ?_) (fun c58 => ?_)
        · refine w_op (pc' := 95) (ll' := [_, _, _, _, _, _]) dX16_moves__92 rfl ?_
          refine w_goto (t := 4) dX16_moves__95 (by decide) ?_
          rw [show nI i + Int32.ofInt 1 = nI (i + 1) from nI_1 i]
          have eb : bI (s_bt z i) = 0 := bI_f c38
          have ef : q_mvS y z i (I1, u) = (I1, u) := if_neg (fun t => of_decide_eq_false t.1 c58)
          rw [s_run_s hi, ef] at hr
          exact ih (i + 1) _ _ _ _ (by omega) (e) hr (by omega)
        · refine w_op (pc' := 63) dX16_moves__61 rfl ?_
          refine t_getI (F := f_mk_isLocked) dX16_moves__63 rfl rfl (by decide) rfl ⟨rfl, fun _ => rfl⟩ (by assumption) ?_
          refine w_ifne (t := 92) dX16_moves__66 (by decide) (fun c66 => ?_) (fun c66 => ?_)
          · refine w_op (pc' := 95) (ll' := [_, _, _, _, _, _]) dX16_moves__92 rfl ?_
            refine w_goto (t := 4) dX16_moves__95 (by decide) ?_
            rw [show nI i + Int32.ofInt 1 = nI (i + 1) from nI_1 i]
            have eb : bI (s_bt z i) = 0 := bI_f c38
            have ef : q_mvS y z i (I1, u) = (I1, u) := if_neg (fun t => c66 t.2.1)
            rw [s_run_s hi, ef] at hr
            exact ih (i + 1) _ _ _ _ (by omega) (e) hr (by omega)
          · refine w_op (pc' := 71) dX16_moves__69 rfl ?_
            refine t_getI (F := f_mk_isDrawn) dX16_moves__71 rfl rfl (by decide) rfl ⟨rfl, fun _ => rfl⟩ (by assumption) ?_
            refine w_op (pc' := 76) dX16_moves__74 rfl ?_
            refine w_icmpne (t := 82) dX16_moves__76 (by decide) (fun c76 => ?_) (fun c76 => ?_)
            · refine w_op (pc' := 84) dX16_moves__82 rfl ?_
              refine w_op (pc' := 86) dX16_moves__84 rfl ?_
              refine t_putI (F := f_mk_isDrawn) dX16_moves__86 rfl rfl (by decide) (by decide) rfl (s_ckb (by decide)) (Or.inl rfl) (by assumption) ?_
              refine w_op (pc' := 92) (ll' := [_, _, _, _, _, _]) dX16_moves__89 rfl ?_
              refine w_op (pc' := 95) (ll' := [_, _, _, _, _, _]) dX16_moves__92 rfl ?_
              refine w_goto (t := 4) dX16_moves__95 (by decide) ?_
              rw [show nI i + Int32.ofInt 1 = nI (i + 1) from nI_1 i]
              have eb : bI (s_bt z i) = 0 := bI_f c38
              have ef : q_mvS y z i (I1, u) = _ := if_pos ⟨decide_eq_false c58, c66, by rw [eb]; exact c76⟩
              rw [eb] at ef
              rw [s_run_s hi, ef] at hr
              exact ih (i + 1) _ _ _ _ (by omega) (e.trans (s_eqN.up (by decide))) hr (by omega)
            · refine w_goto (t := 92) dX16_moves__79 (by decide) ?_
              refine w_op (pc' := 95) (ll' := [_, _, _, _, _, _]) dX16_moves__92 rfl ?_
              refine w_goto (t := 4) dX16_moves__95 (by decide) ?_
              rw [show nI i + Int32.ofInt 1 = nI (i + 1) from nI_1 i]
              have eb : bI (s_bt z i) = 0 := bI_f c38
              have ef : q_mvS y z i (I1, u) = (I1, u) := if_neg (fun t => t.2.2 (by rw [eb]; exact c76))
              rw [s_run_s hi, ef] at hr
              exact ih (i + 1) _ _ _ _ (by omega) (e) hr (by omega)
      · refine w_iconst (v := 1) dX16_moves__41 rfl ?_
        refine w_goto (t := 46) dX16_moves__42 (by decide) ?_
        refine w_op (pc' := 48) (ll' := [_, _, _, _, _, _]) dX16_moves__46 rfl ?_
        refine w_op (pc' := 49) dX16_moves__48 rfl ?_
        refine t_getJ (F := j_mg_knobs) dX16_moves__49 rfl rfl (by decide) rfl (fun _ => rfl) (by assumption) ?_
        rw [hy]
        refine w_op (pc' := 53) dX16_moves__52 rfl ?_
        refine w_op (pc' := 54) dX16_moves__53 rfl ?_
        refine w_op (pc' := 55) dX16_moves__54 rfl ?_
        refine w_op (pc' := 56) dX16_moves__55 rfl ?_
        refine w_op (pc' := 57) dX16_moves__56 rfl ?_
        refine w_op (pc' := 58) dX16_moves__57 rfl ?_
        refine w_ifeq (t := 92) dX16_moves__58 (by decide) (fun c58 => ?_) (fun c58 => ?_)
        · refine w_op (pc' := 95) (ll' := [_, _, _, _, _, _]) dX16_moves__92 rfl ?_
          refine w_goto (t := 4) dX16_moves__95 (by decide) ?_
          rw [show nI i + Int32.ofInt 1 = nI (i + 1) from nI_1 i]
          have eb : bI (s_bt z i) = 1 := bI_t c38
          have ef : q_mvS y z i (I1, u) = (I1, u) := if_neg (fun t => of_decide_eq_false t.1 c58)
          rw [s_run_s hi, ef] at hr
          exact ih (i + 1) _ _ _ _ (by omega) (e) hr (by omega)
        · refine w_op (pc' := 63) dX16_moves__61 rfl ?_
          refine t_getI (F := f_mk_isLocked) dX16_moves__63 rfl rfl (by decide) rfl ⟨rfl, fun _ => rfl⟩ (by assumption) ?_
          refine w_ifne (t := 92) dX16_moves__66 (by decide) (fun c66 => ?_) (fun c66 => ?_)
          · refine w_op (pc' := 95) (ll' := [_, _, _, _, _, _]) dX16_moves__92 rfl ?_
            refine w_goto (t := 4) dX16_moves__95 (by decide) ?_
            rw [show nI i + Int32.ofInt 1 = nI (i + 1) from nI_1 i]
            have eb : bI (s_bt z i) = 1 := bI_t c38
            have ef : q_mvS y z i (I1, u) = (I1, u) := if_neg (fun t => c66 t.2.1)
            rw [s_run_s hi, ef] at hr
            exact ih (i + 1) _ _ _ _ (by omega) (e) hr (by omega)
          · refine w_op (pc' := 71) dX16_moves__69 rfl ?_
            refine t_getI (F := f_mk_isDrawn) dX16_moves__71 rfl rfl (by decide) rfl ⟨rfl, fun _ => rfl⟩ (by assumption) ?_
            refine w_op (pc' := 76) dX16_moves__74 rfl ?_
            refine w_icmpne (t := 82) dX16_moves__76 (by decide) (fun c76 => ?_) (fun c76 => ?_)
            · refine w_op (pc' := 84) dX16_moves__82 rfl ?_
              refine w_op (pc' := 86) dX16_moves__84 rfl ?_
              refine t_putI (F := f_mk_isDrawn) dX16_moves__86 rfl rfl (by decide) (by decide) rfl (s_ckb (by decide)) (Or.inl rfl) (by assumption) ?_
              refine w_op (pc' := 92) (ll' := [_, _, _, _, _, _]) dX16_moves__89 rfl ?_
              refine w_op (pc' := 95) (ll' := [_, _, _, _, _, _]) dX16_moves__92 rfl ?_
              refine w_goto (t := 4) dX16_moves__95 (by decide) ?_
              rw [show nI i + Int32.ofInt 1 = nI (i + 1) from nI_1 i]
              have eb : bI (s_bt z i) = 1 := bI_t c38
              have ef : q_mvS y z i (I1, u) = _ := if_pos ⟨decide_eq_false c58, c66, by rw [eb]; exact c76⟩
              rw [eb] at ef
              rw [s_run_s hi, ef] at hr
              exact ih (i + 1) _ _ _ _ (by omega) (e.trans (s_eqN.up (by decide))) hr (by omega)
            · refine w_goto (t := 92) dX16_moves__79 (by decide) ?_
              refine w_op (pc' := 95) (ll' := [_, _, _, _, _, _]) dX16_moves__92 rfl ?_
              refine w_goto (t := 4) dX16_moves__95 (by decide) ?_
              rw [show nI i + Int32.ofInt 1 = nI (i + 1) from nI_1 i]
              have eb : bI (s_bt z i) = 1 := bI_t c38
              have ef : q_mvS y z i (I1, u) = (I1, u) := if_neg (fun t => t.2.2 (by rw [eb]; exact c76))
              rw [s_run_s hi, ef] at hr
              exact ih (i + 1) _ _ _ _ (by omega) (e) hr (by omega)
set_option maxRecDepth 100000 in
set_option maxHeartbeats 800000 in
theorem c_X16_moves_ {X : e_XT} {d : Nat} {p : e_Sp} {I : e_I} {J : e_Jt} {c : Nat × Nat} {w : e_Rw1} {Q : e_Rt → e_SS → Prop} {nk nr np : Nat} (hM : q_D p I nk nr np) {j : Nat} (hv : p.2.1 T_MKEEP j = true) (k : Q (.inl (some (.int (q_mt nk (J j_mg_knobs j) (J j_mg_drawn j) I).2))) (p, (q_mt nk (J j_mg_knobs j) (J j_mg_drawn j) I).1, J, c, w)) : s_c X (d + 3) 296 [.ref (p.1 T_MODEL 0), .ref (p.1 T_MKEEP j)] (p, I, J, c, w) Q := by
  refine m_X16_moves_ (Nat.le_of_ble_eq_true rfl) ?_
  show s_w _ _ _ 0 _ _ _ _
  refine w_iconst (v := 0) dX16_moves__0 rfl ?_
  refine w_op (pc' := 2) (ll' := [_, _, _, _, _, _]) dX16_moves__1 rfl ?_
  refine w_iconst (v := 0) dX16_moves__2 rfl ?_
  refine w_op (pc' := 4) (ll' := [_, _, _, _, _, _]) dX16_moves__3 rfl ?_
  exact l_X16_moves_ hM hv rfl rfl k (nk + 1) 0 _ _ _ _ (Nat.zero_le _) s_eqN.rfl' rfl (by omega)

set_option maxRecDepth 100000 in
set_option maxHeartbeats 800000 in
theorem c_X16_keepsF {X : e_XT} {d : Nat} {p : e_Sp} {I : e_I} {J : e_Jt} {c : Nat × Nat} {w : e_Rw1} {Q : e_Rt → e_SS → Prop} {nk nr np : Nat} (hM : q_D p I nk nr np) {j i : Nat} (hv : p.2.1 T_MFRAME j = true) (hi : i < nk) (k : Q (.inl none) (p, I, q_keJ j_mf_knobs j_mf_drawn I j i J, c, w)) : s_c X (d + 3) 294 [.ref (p.1 T_MODEL 0), .ref (p.1 T_MFRAME j), .int (nI i)] (p, I, J, c, w) Q := by
  have hp := hM.1
  have hk40 := hM.2.1
  have hr10 := hM.2.2.1
  have hv2 := (hM.2.2.2.2.1 i hi).1
  refine m_X16_keeps (Nat.le_of_ble_eq_true rfl) ?_
  show s_w _ _ _ 0 _ _ _ _
  refine w_op (pc' := 1) dX16_keeps_0 rfl ?_
  refine w_op (pc' := 2) dX16_keeps_1 rfl ?_
  refine t_getJ (F := j_mf_knobs) dX16_keeps_2 rfl rfl (by decide) rfl (fun _ => rfl) (by assumption) ?_
  refine w_op (pc' := 6) dX16_keeps_5 rfl ?_
  refine w_op (pc' := 7) dX16_keeps_6 rfl ?_
  refine w_op (pc' := 8) dX16_keeps_7 rfl ?_
  refine w_op (pc' := 9) dX16_keeps_8 rfl ?_
  refine t_putJ (F := j_mf_knobs) dX16_keeps_9 rfl rfl (by decide) rfl rfl (Or.inl rfl) (by assumption) ?_
  refine w_op (pc' := 13) dX16_keeps_12 rfl ?_
  refine w_op (pc' := 14) dX16_keeps_13 rfl ?_
  refine t_getJ (F := j_mf_drawn) dX16_keeps_14 rfl rfl (by decide) rfl (fun _ => rfl) (by assumption) ?_
  refine w_op (pc' := 18) dX16_keeps_17 rfl ?_
  refine t_getG0 (G := g_m_list1) dX16_keeps_18 rfl rfl (by decide) rfl (fun _ => rfl) (hp.1 _ rfl) ?_
  refine w_op (pc' := 22) dX16_keeps_21 rfl ?_
  refine t_callV (t := T_LIST) (As := [_]) dX16_keeps_22 rfl rM_Jx4a65c_get_915e3 (by decide) rfl rfl (by decide) (by decide) (Nat.le_of_ble_eq_true rfl) rfl (hp.2 _ (by decide)) (c_get3 hp hk40.2 (by omega) hi ?_)
  show s_w _ _ _ 25 _ _ _ _
  refine t_chk dX16_keeps_25 rfl rfl (by decide) (by assumption) ?_
  refine t_getI (F := f_mk_isDrawn) dX16_keeps_28 rfl rfl (by decide) rfl ⟨rfl, fun _ => rfl⟩ (by assumption) ?_
  refine w_ifeq (t := 40) dX16_keeps_31 (by decide) (fun c31 => ?_) (fun c31 => ?_)
  · refine w_op (pc' := 41) dX16_keeps_40 rfl ?_
    refine w_op (pc' := 42) dX16_keeps_41 rfl ?_
    refine t_putJ (F := j_mf_drawn) dX16_keeps_42 rfl rfl (by decide) rfl rfl (Or.inl rfl) (by assumption) ?_
    exact w_return dX16_keeps_45 ⟨rfl, (by unfold q_keJ at k; rw [if_pos c31] at k; exact k)⟩
  · refine w_op (pc' := 35) dX16_keeps_34 rfl ?_
    refine w_op (pc' := 36) dX16_keeps_35 rfl ?_
    refine w_op (pc' := 37) dX16_keeps_36 rfl ?_
    refine w_goto (t := 41) dX16_keeps_37 (by decide) ?_
    refine w_op (pc' := 42) dX16_keeps_41 rfl ?_
    refine t_putJ (F := j_mf_drawn) dX16_keeps_42 rfl rfl (by decide) rfl rfl (Or.inl rfl) (by assumption) ?_
    exact w_return dX16_keeps_45 ⟨rfl, (by unfold q_keJ at k; rw [if_neg c31] at k; exact k)⟩

set_option maxRecDepth 100000 in
set_option maxHeartbeats 800000 in
theorem l_X16_moves_F {X : e_XT} {d : Nat} {p : e_Sp} {I : e_I} {J : e_Jt} {c : Nat × Nat} {w : e_Rw1} {Q : e_Rt → e_SS → Prop} {nk nr np : Nat} (hM : q_D p I nk nr np) {j : Nat} (hv : p.2.1 T_MFRAME j = true) {y z : Int64} (hy : J j_mf_knobs j = y) (hz : J j_mf_drawn j = z) {R : e_I × Int32} (k : Q (.inl (some (.int R.2))) (p, R.1, J, c, w)) : ∀ (n : Nat) (i : Nat) (I1 : e_I) (u : Int32) (o4 o5 : Option Value), (h1 : i ≤ nk) → (e : s_eqN [f_mk_isDrawn] I I1) → (hr : s_run (q_mvS y z) i (nk - i) (I1, u) = R) → (hn : nk - i < n) → s_w X (d + 3) K_X16_moves_ 4 [some (.ref (p.1 T_MODEL 0)), some (.ref (p.1 T_MFRAME j)), some (.int u), some (.int (nI i)), o4, o5] [] (p, I1, J, c, w) (fun r S' => e_rcr (some FieldType.int) r = true ∧ Q r S') := by
  intro n
  induction n with
  | zero =>
    intro i I1 u o4 o5 h1 e hr hn
    exact absurd hn (Nat.not_lt_zero _)
  | succ n ih =>
    intro i I1 u o4 o5 h1 e hr hn
    have hM1 := hM.eqN e (by decide)
    have hp := hM1.1
    have hk40 := hM1.2.1
    refine w_op (pc' := 5) dX16_moves__4 rfl ?_
    refine w_op (pc' := 6) dX16_moves__5 rfl ?_
    refine t_getG0 (G := g_m_list1) dX16_moves__6 rfl rfl (by decide) rfl (fun _ => rfl) (hp.1 _ rfl) ?_
    refine t_callV (t := T_LIST) (As := []) dX16_moves__9 rfl rM_Jx4a65c_size_8abf5 (by decide) rfl rfl (by decide) (by decide) (Nat.le_of_ble_eq_true rfl) rfl (hp.2 _ (by decide)) (c_size (hp.2 _ (by decide)) ?_)
    show s_w _ _ _ 12 _ _ _ _
    rw [hk40.2]
    refine w_icmpge (t := 98) dX16_moves__12 (by decide) (fun c12 => ?_) (fun c12 => ?_)
    · have hi := (nI_leI (by omega) (by omega)).mp c12
      rw [s_run_z hi] at hr
      refine w_op (pc' := 99) dX16_moves__98 rfl ?_
      exact w_ireturn dX16_moves__99 ⟨rfl, by subst hr; exact k⟩
    · have hi : i < nk := Nat.lt_of_not_le (fun t => c12 ((nI_leI (by omega) (by omega)).mpr t))
      have hv2 := (hM1.2.2.2.2.1 i hi).1
      refine w_op (pc' := 16) dX16_moves__15 rfl ?_
      refine t_getG0 (G := g_m_list1) dX16_moves__16 rfl rfl (by decide) rfl (fun _ => rfl) (hp.1 _ rfl) ?_
      refine w_op (pc' := 20) dX16_moves__19 rfl ?_
      refine t_callV (t := T_LIST) (As := [_]) dX16_moves__20 rfl rM_Jx4a65c_get_915e3 (by decide) rfl rfl (by decide) (by decide) (Nat.le_of_ble_eq_true rfl) rfl (hp.2 _ (by decide)) (c_get3 hp hk40.2 (by omega) hi ?_)
      show s_w _ _ _ 23 _ _ _ _
      refine t_chk dX16_moves__23 rfl rfl (by decide) (by assumption) ?_
      refine w_op (pc' := 28) (ll' := [_, _, _, _, _, _]) dX16_moves__26 rfl ?_
      refine w_op (pc' := 29) dX16_moves__28 rfl ?_
      refine t_getJ (F := j_mf_drawn) dX16_moves__29 rfl rfl (by decide) rfl (fun _ => rfl) (by assumption) ?_
      rw [hz]
      refine w_op (pc' := 33) dX16_moves__32 rfl ?_
      refine w_op (pc' := 34) dX16_moves__33 rfl ?_
      refine w_op (pc' := 35) dX16_moves__34 rfl ?_
      refine w_op (pc' := 36) dX16_moves__35 rfl ?_
      refine w_op (pc' := 37) dX16_moves__36 rfl ?_
      refine w_op (pc' := 38) dX16_moves__37 rfl ?_
      refine w_ifne (t := 45) dX16_moves__38 (by decide) (fun c38 => ?_) (fun c38 => ?_)
      · refine w_iconst (v := 0) dX16_moves__45 rfl ?_
        refine w_op (pc' := 48) (ll' := [_, _, _, _, _, _]) dX16_moves__46 rfl ?_
        refine w_op (pc' := 49) dX16_moves__48 rfl ?_
        refine t_getJ (F := j_mf_knobs) dX16_moves__49 rfl rfl (by decide) rfl (fun _ => rfl) (by assumption) ?_
        rw [hy]
        refine w_op (pc' := 53) dX16_moves__52 rfl ?_
        refine w_op (pc' := 54) dX16_moves__53 rfl ?_
        refine w_op (pc' := 55) dX16_moves__54 rfl ?_
        refine w_op (pc' := 56) dX16_moves__55 rfl ?_
        refine w_op (pc' := 57) dX16_moves__56 rfl ?_
        refine w_op (pc' := 58) dX16_moves__57 rfl ?_
        refine w_ifeq (t := 92) dX16_moves__58 (by decide) (fun c58 => ?_) (fun c58 => ?_)
        · refine w_op (pc' := 95) (ll' := [_, _, _, _, _, _]) dX16_moves__92 rfl ?_
          refine w_goto (t := 4) dX16_moves__95 (by decide) ?_
          rw [show nI i + Int32.ofInt 1 = nI (i + 1) from nI_1 i]
          have eb : bI (s_bt z i) = 0 := bI_f c38
          have ef : q_mvS y z i (I1, u) = (I1, u) := if_neg (fun t => of_decide_eq_false t.1 c58)
          rw [s_run_s hi, ef] at hr
          exact ih (i + 1) _ _ _ _ (by omega) (e) hr (by omega)
        · refine w_op (pc' := 63) dX16_moves__61 rfl ?_
          refine t_getI (F := f_mk_isLocked) dX16_moves__63 rfl rfl (by decide) rfl ⟨rfl, fun _ => rfl⟩ (by assumption) ?_
          refine w_ifne (t := 92) dX16_moves__66 (by decide) (fun c66 => ?_) (fun c66 => ?_)
          · refine w_op (pc' := 95) (ll' := [_, _, _, _, _, _]) dX16_moves__92 rfl ?_
            refine w_goto (t := 4) dX16_moves__95 (by decide) ?_
            rw [show nI i + Int32.ofInt 1 = nI (i + 1) from nI_1 i]
            have eb : bI (s_bt z i) = 0 := bI_f c38
            have ef : q_mvS y z i (I1, u) = (I1, u) := if_neg (fun t => c66 t.2.1)
            rw [s_run_s hi, ef] at hr
            exact ih (i + 1) _ _ _ _ (by omega) (e) hr (by omega)
          · refine w_op (pc' := 71) dX16_moves__69 rfl ?_
            refine t_getI (F := f_mk_isDrawn) dX16_moves__71 rfl rfl (by decide) rfl ⟨rfl, fun _ => rfl⟩ (by assumption) ?_
            refine w_op (pc' := 76) dX16_moves__74 rfl ?_
            refine w_icmpne (t := 82) dX16_moves__76 (by decide) (fun c76 => ?_) (fun c76 => ?_)
            · refine w_op (pc' := 84) dX16_moves__82 rfl ?_
              refine w_op (pc' := 86) dX16_moves__84 rfl ?_
              refine t_putI (F := f_mk_isDrawn) dX16_moves__86 rfl rfl (by decide) (by decide) rfl (s_ckb (by decide)) (Or.inl rfl) (by assumption) ?_
              refine w_op (pc' := 92) (ll' := [_, _, _, _, _, _]) dX16_moves__89 rfl ?_
              refine w_op (pc' := 95) (ll' := [_, _, _, _, _, _]) dX16_moves__92 rfl ?_
              refine w_goto (t := 4) dX16_moves__95 (by decide) ?_
              rw [show nI i + Int32.ofInt 1 = nI (i + 1) from nI_1 i]
              have eb : bI (s_bt z i) = 0 := bI_f c38
              have ef : q_mvS y z i (I1, u) = _ := if_pos ⟨decide_eq_false c58, c66, by rw [eb]; exact c76⟩
              rw [eb] at ef
              rw [s_run_s hi, ef] at hr
              exact ih (i + 1) _ _ _ _ (by omega) (e.trans (s_eqN.up (by decide))) hr (by omega)
            · refine w_goto (t := 92) dX16_moves__79 (by decide) ?_
              refine w_op (pc' := 95) (ll' := [_, _, _, _, _, _]) dX16_moves__92 rfl ?_
              refine w_goto (t := 4) dX16_moves__95 (by decide) ?_
              rw [show nI i + Int32.ofInt 1 = nI (i + 1) from nI_1 i]
              have eb : bI (s_bt z i) = 0 := bI_f c38
              have ef : q_mvS y z i (I1, u) = (I1, u) := if_neg (fun t => t.2.2 (by rw [eb]; exact c76))
              rw [s_run_s hi, ef] at hr
              exact ih (i + 1) _ _ _ _ (by omega) (e) hr (by omega)
      · refine w_iconst (v := 1) dX16_moves__41 rfl ?_
        refine w_goto (t := 46) dX16_moves__42 (by decide) ?_
        refine w_op (pc' := 48) (ll' := [_, _, _, _, _, _]) dX16_moves__46 rfl ?_
        refine w_op (pc' := 49) dX16_moves__48 rfl ?_
        refine t_getJ (F := j_mf_knobs) dX16_moves__49 rfl rfl (by decide) rfl (fun _ => rfl) (by assumption) ?_
        rw [hy]
        refine w_op (pc' := 53) dX16_moves__52 rfl ?_
        refine w_op (pc' := 54) dX16_moves__53 rfl ?_
        refine w_op (pc' := 55) dX16_moves__54 rfl ?_
        refine w_op (pc' := 56) dX16_moves__55 rfl ?_
        refine w_op (pc' := 57) dX16_moves__56 rfl ?_
        refine w_op (pc' := 58) dX16_moves__57 rfl ?_
        refine w_ifeq (t := 92) dX16_moves__58 (by decide) (fun c58 => ?_) (fun c58 => ?_)
        · refine w_op (pc' := 95) (ll' := [_, _, _, _, _, _]) dX16_moves__92 rfl ?_
          refine w_goto (t := 4) dX16_moves__95 (by decide) ?_
          rw [show nI i + Int32.ofInt 1 = nI (i + 1) from nI_1 i]
          have eb : bI (s_bt z i) = 1 := bI_t c38
          have ef : q_mvS y z i (I1, u) = (I1, u) := if_neg (fun t => of_decide_eq_false t.1 c58)
          rw [s_run_s hi, ef] at hr
          exact ih (i + 1) _ _ _ _ (by omega) (e) hr (by omega)
        · refine w_op (pc' := 63) dX16_moves__61 rfl ?_
          refine t_getI (F := f_mk_isLocked) dX16_moves__63 rfl rfl (by decide) rfl ⟨rfl, fun _ => rfl⟩ (by assumption) ?_
          refine w_ifne (t := 92) dX16_moves__66 (by decide) (fun c66 => ?_) (fun c66 => ?_)
          · refine w_op (pc' := 95) (ll' := [_, _, _, _, _, _]) dX16_moves__92 rfl ?_
            refine w_goto (t := 4) dX16_moves__95 (by decide) ?_
            rw [show nI i + Int32.ofInt 1 = nI (i + 1) from nI_1 i]
            have eb : bI (s_bt z i) = 1 := bI_t c38
            have ef : q_mvS y z i (I1, u) = (I1, u) := if_neg (fun t => c66 t.2.1)
            rw [s_run_s hi, ef] at hr
            exact ih (i + 1) _ _ _ _ (by omega) (e) hr (by omega)
          · refine w_op (pc' := 71) dX16_moves__69 rfl ?_
            refine t_getI (F := f_mk_isDrawn) dX16_moves__71 rfl rfl (by decide) rfl ⟨rfl, fun _ => rfl⟩ (by assumption) ?_
            refine w_op (pc' := 76) dX16_moves__74 rfl ?_
            refine w_icmpne (t := 82) dX16_moves__76 (by decide) (fun c76 => ?_) (fun c76 => ?_)
            · refine w_op (pc' := 84) dX16_moves__82 rfl ?_
              refine w_op (pc' := 86) dX16_moves__84 rfl ?_
              refine t_putI (F := f_mk_isDrawn) dX16_moves__86 rfl rfl (by decide) (by decide) rfl (s_ckb (by decide)) (Or.inl rfl) (by assumption) ?_
              refine w_op (pc' := 92) (ll' := [_, _, _, _, _, _]) dX16_moves__89 rfl ?_
              refine w_op (pc' := 95) (ll' := [_, _, _, _, _, _]) dX16_moves__92 rfl ?_
              refine w_goto (t := 4) dX16_moves__95 (by decide) ?_
              rw [show nI i + Int32.ofInt 1 = nI (i + 1) from nI_1 i]
              have eb : bI (s_bt z i) = 1 := bI_t c38
              have ef : q_mvS y z i (I1, u) = _ := if_pos ⟨decide_eq_false c58, c66, by rw [eb]; exact c76⟩
              rw [eb] at ef
              rw [s_run_s hi, ef] at hr
              exact ih (i + 1) _ _ _ _ (by omega) (e.trans (s_eqN.up (by decide))) hr (by omega)
            · refine w_goto (t := 92) dX16_moves__79 (by decide) ?_
              refine w_op (pc' := 95) (ll' := [_, _, _, _, _, _]) dX16_moves__92 rfl ?_
              refine w_goto (t := 4) dX16_moves__95 (by decide) ?_
              rw [show nI i + Int32.ofInt 1 = nI (i + 1) from nI_1 i]
              have eb : bI (s_bt z i) = 1 := bI_t c38
              have ef : q_mvS y z i (I1, u) = (I1, u) := if_neg (fun t => t.2.2 (by rw [eb]; exact c76))
              rw [s_run_s hi, ef] at hr
              exact ih (i + 1) _ _ _ _ (by omega) (e) hr (by omega)
set_option maxRecDepth 100000 in
set_option maxHeartbeats 800000 in
theorem c_X16_moves_F {X : e_XT} {d : Nat} {p : e_Sp} {I : e_I} {J : e_Jt} {c : Nat × Nat} {w : e_Rw1} {Q : e_Rt → e_SS → Prop} {nk nr np : Nat} (hM : q_D p I nk nr np) {j : Nat} (hv : p.2.1 T_MFRAME j = true) (k : Q (.inl (some (.int (q_mt nk (J j_mf_knobs j) (J j_mf_drawn j) I).2))) (p, (q_mt nk (J j_mf_knobs j) (J j_mf_drawn j) I).1, J, c, w)) : s_c X (d + 3) 296 [.ref (p.1 T_MODEL 0), .ref (p.1 T_MFRAME j)] (p, I, J, c, w) Q := by
  refine m_X16_moves_ (Nat.le_of_ble_eq_true rfl) ?_
  show s_w _ _ _ 0 _ _ _ _
  refine w_iconst (v := 0) dX16_moves__0 rfl ?_
  refine w_op (pc' := 2) (ll' := [_, _, _, _, _, _]) dX16_moves__1 rfl ?_
  refine w_iconst (v := 0) dX16_moves__2 rfl ?_
  refine w_op (pc' := 4) (ll' := [_, _, _, _, _, _]) dX16_moves__3 rfl ?_
  exact l_X16_moves_F hM hv rfl rfl k (nk + 1) 0 _ _ _ _ (Nat.zero_le _) s_eqN.rfl' rfl (by omega)

set_option maxRecDepth 100000 in
set_option maxHeartbeats 800000 in
theorem c_X16_push {X : e_XT} {d : Nat} {p : e_Sp} {I : e_I} {J : e_Jt} {c : Nat × Nat} {w : e_Rw1} {Q : e_Rt → e_SS → Prop} {nk nr np a b n : Nat} (hG : q_G p I c nk nr np a b n) (hX : (X 8).1 = 0) (hKM : q_M p I) {x y : Int32} (k : q_ps x y = true → ¬ I f_mg_isSet (q_kp I x y) = 0 → ∀ p' c' n', q_X p p' → q_L p' (q_st nk nr np ((q_mt nk (J j_mg_knobs (q_kp I x y)) (J j_mg_drawn (q_kp I x y)) I).1, J)).1 c' a b n' → n' ≤ n + np → Q (.inl (some (.int ((q_mt nk (J j_mg_knobs (q_kp I x y)) (J j_mg_drawn (q_kp I x y)) I).2)))) (p', q_an (q_st nk nr np ((q_mt nk (J j_mg_knobs (q_kp I x y)) (J j_mg_drawn (q_kp I x y)) I).1, J)).1, (q_st nk nr np ((q_mt nk (J j_mg_knobs (q_kp I x y)) (J j_mg_drawn (q_kp I x y)) I).1, J)).2, c', w)) (kx : q_ps x y = false → Q (.inl (some (.int 0))) (p, q_fl I 1, J, c, w)) (kx2 : q_ps x y = true → I f_mg_isSet (q_kp I x y) = 0 → Q (.inl (some (.int 0))) (p, q_fl I 2, J, c, w)) : s_c X (d + 10) 295 [.ref (p.1 T_MODEL 0), .int x, .int y] (p, I, J, c, w) Q := by
  have hM := hG.1
  have hp := hM.1
  have hk40 := hM.2.1
  have hr10 := hM.2.2.1
  have hnp := hM.2.2.2.1
  refine m_X16_push (Nat.le_of_ble_eq_true rfl) ?_
  show s_w _ _ _ 0 _ _ _ _
  refine w_op (pc' := 1) dX16_push_0 rfl ?_
  refine w_op (pc' := 2) dX16_push_1 rfl ?_
  refine t_callS (As := [_, _]) dX16_push_2 rfl rM_X16_isPiston (by decide) rfl rfl (by decide) (Nat.le_of_ble_eq_true rfl) (c_X16_isPiston ?_)
  show s_w _ _ _ 5 _ _ _ _
  refine w_ifne (t := 14) dX16_push_5 (by decide) (fun c5 => ?_) (fun c5 => ?_)
  · have hq : q_ps x y = true := bI_n0.mp c5
    have hv := hKM.1 _ (q_kp_lt hKM.2.2.2 hq)
    have hG1 := hG.eqN (s_eqN.qmt (nk := nk) (y := J j_mg_knobs (q_kp I x y)) (z := J j_mg_drawn (q_kp I x y))) (by decide)
    refine w_op (pc' := 15) dX16_push_14 rfl ?_
    refine w_op (pc' := 16) dX16_push_15 rfl ?_
    refine w_op (pc' := 17) dX16_push_16 rfl ?_
    refine t_callV (t := T_MODEL) (As := [_, _]) dX16_push_17 rfl rM_X16_keeping (by decide) rfl rfl (by decide) (by decide) (Nat.le_of_ble_eq_true rfl) rfl (hp.1 _ rfl) (c_X16_keeping hp hKM hq ?_)
    show s_w _ _ _ 20 _ _ _ _
    refine t_getI (F := f_mg_isSet) dX16_push_20 rfl rfl (by decide) rfl ⟨rfl, fun _ => rfl⟩ (by assumption) ?_
    refine w_ifeq (t := 43) dX16_push_23 (by decide) (fun c23 => ?_) (fun c23 => ?_)
    · refine w_op (pc' := 44) dX16_push_43 rfl ?_
      refine w_iconst (v := 2) dX16_push_44 rfl ?_
      refine t_callV (t := T_MODEL) (As := [_]) dX16_push_45 rfl rM_X16_fails (by decide) rfl rfl (by decide) (by decide) (Nat.le_of_ble_eq_true rfl) rfl (hp.1 _ rfl) (c_X16_fails hp ?_)
      show s_w _ _ _ 48 _ _ _ _
      exact w_ireturn dX16_push_48 ⟨rfl, kx2 hq c23⟩
    · refine w_op (pc' := 27) dX16_push_26 rfl ?_
      refine w_op (pc' := 28) dX16_push_27 rfl ?_
      refine w_op (pc' := 29) dX16_push_28 rfl ?_
      refine w_op (pc' := 30) dX16_push_29 rfl ?_
      refine w_op (pc' := 31) dX16_push_30 rfl ?_
      refine t_callV (t := T_MODEL) (As := [_, _]) dX16_push_31 rfl rM_X16_keeping (by decide) rfl rfl (by decide) (by decide) (Nat.le_of_ble_eq_true rfl) rfl (hp.1 _ rfl) (c_X16_keeping hp hKM hq ?_)
      show s_w _ _ _ 34 _ _ _ _
      refine t_callV (t := T_MODEL) (As := [_]) dX16_push_34 rfl rM_X16_moves_ (by decide) rfl rfl (by decide) (by decide) (Nat.le_of_ble_eq_true rfl) rfl (hp.1 _ rfl) (c_X16_moves_ hM hv ?_)
      show s_w _ _ _ 37 _ _ _ _
      refine t_callV (t := T_MODEL) (As := [_]) dX16_push_37 rfl rM_X16_settled (by decide) rfl rfl (by decide) (by decide) (Nat.le_of_ble_eq_true rfl) rfl (hp.1 _ rfl) (c_X16_settled hG1 hX (fun p1 c1 n1 x1 hL1 hn1 => ?_))
      show s_w _ _ _ 40 _ _ _ _
      refine w_goto (t := 48) dX16_push_40 (by decide) ?_
      exact w_ireturn dX16_push_48 ⟨rfl, k hq c23 p1 c1 n1 x1 hL1 hn1⟩
  · refine w_op (pc' := 9) dX16_push_8 rfl ?_
    refine w_iconst (v := 1) dX16_push_9 rfl ?_
    refine t_callV (t := T_MODEL) (As := [_]) dX16_push_10 rfl rM_X16_fails (by decide) rfl rfl (by decide) (by decide) (Nat.le_of_ble_eq_true rfl) rfl (hp.1 _ rfl) (c_X16_fails hp ?_)
    show s_w _ _ _ 13 _ _ _ _
    exact w_ireturn dX16_push_13 ⟨rfl, kx (bI_0.mp c5)⟩

def q_nx (I : e_I) : Int32 := I f_m_next 0 + 1 - (I f_m_next 0 + 1) / 8 * 8
set_option maxRecDepth 100000 in
set_option maxHeartbeats 800000 in
theorem l_X16_step {X : e_XT} {d : Nat} {p : e_Sp} {I : e_I} {J : e_Jt} {c : Nat × Nat} {w : e_Rw1} {Q : e_Rt → e_SS → Prop} {nk nr np a b n : Nat} (hG : q_G p I c nk nr np a b n) (hX : (X 8).1 = 0) (k : ∀ p' c' n', q_X p p' → q_L p' (q_st nk nr np (s_up I f_m_next 0 (q_nx I), J)).1 c' a b n' → n' ≤ n + np → Q (.inl (some (.int (q_nx I)))) (p', q_an (q_st nk nr np (s_up I f_m_next 0 (q_nx I), J)).1, (q_st nk nr np (s_up I f_m_next 0 (q_nx I), J)).2, c', w)) : s_w X (d + 10) K_X16_step 29 [some (.ref (p.1 T_MODEL 0))] [] (p, I, J, c, w) (fun r S' => e_rcr (some .int) r = true ∧ Q r S') := by
  have hp := hG.1.1
  refine w_op (pc' := 30) dX16_step_29 rfl ?_
  refine w_op (pc' := 31) dX16_step_30 rfl ?_
  refine t_getI (F := f_m_next) dX16_step_31 rfl rfl (by decide) rfl ⟨rfl, fun _ => rfl⟩ (hp.1 _ rfl) ?_
  refine w_iconst (v := 1) dX16_step_34 rfl ?_
  refine w_op (pc' := 36) dX16_step_35 rfl ?_
  refine w_bipush (v := 8) dX16_step_36 rfl ?_
  refine w_op (pc' := 39) dX16_step_38 (by rfl) ?_
  refine t_putI (F := f_m_next) dX16_step_39 rfl rfl (by decide) (by decide) rfl rfl (Or.inl rfl) (hp.1 _ rfl) ?_
  refine w_op (pc' := 43) dX16_step_42 rfl ?_
  refine w_op (pc' := 44) dX16_step_43 rfl ?_
  refine t_getI (F := f_m_next) dX16_step_44 rfl rfl (by decide) rfl ⟨rfl, fun _ => rfl⟩ (hp.1 _ rfl) ?_
  rw [s_up_s]
  refine t_callV (t := T_MODEL) (As := [_]) dX16_step_47 rfl rM_X16_settled (by decide) rfl rfl (by decide) (by decide) (Nat.le_of_ble_eq_true rfl) rfl (hp.1 _ rfl) (c_X16_settled (hG.up (by decide)) hX (fun p1 c1 n1 x1 hL1 hn1 => ?_))
  show s_w _ _ _ 50 _ _ _ _
  exact w_ireturn dX16_step_50 ⟨rfl, k p1 c1 n1 x1 hL1 hn1⟩

set_option maxRecDepth 100000 in
set_option maxHeartbeats 800000 in
theorem c_X16_step {X : e_XT} {d : Nat} {p : e_Sp} {I : e_I} {J : e_Jt} {c : Nat × Nat} {w : e_Rw1} {Q : e_Rt → e_SS → Prop} {nk nr np a b n : Nat} (hG : q_G p I c nk nr np a b n) (hX : (X 8).1 = 0) (hKM : q_M p I) (hq : q_ps (-1) (I f_m_next 0) = true) (k : ¬ I f_mg_isSet (q_kp I (-1) (I f_m_next 0)) = 0 → ∀ p' c' n', q_X p p' → q_L p' (q_st nk nr np (s_up (q_mt nk (J j_mg_knobs (q_kp I (-1) (I f_m_next 0))) (J j_mg_drawn (q_kp I (-1) (I f_m_next 0))) I).1 f_m_next 0 (q_nx (q_mt nk (J j_mg_knobs (q_kp I (-1) (I f_m_next 0))) (J j_mg_drawn (q_kp I (-1) (I f_m_next 0))) I).1), J)).1 c' a b n' → n' ≤ n + np → Q (.inl (some (.int (q_nx (q_mt nk (J j_mg_knobs (q_kp I (-1) (I f_m_next 0))) (J j_mg_drawn (q_kp I (-1) (I f_m_next 0))) I).1)))) (p', q_an (q_st nk nr np (s_up (q_mt nk (J j_mg_knobs (q_kp I (-1) (I f_m_next 0))) (J j_mg_drawn (q_kp I (-1) (I f_m_next 0))) I).1 f_m_next 0 (q_nx (q_mt nk (J j_mg_knobs (q_kp I (-1) (I f_m_next 0))) (J j_mg_drawn (q_kp I (-1) (I f_m_next 0))) I).1), J)).1, (q_st nk nr np (s_up (q_mt nk (J j_mg_knobs (q_kp I (-1) (I f_m_next 0))) (J j_mg_drawn (q_kp I (-1) (I f_m_next 0))) I).1 f_m_next 0 (q_nx (q_mt nk (J j_mg_knobs (q_kp I (-1) (I f_m_next 0))) (J j_mg_drawn (q_kp I (-1) (I f_m_next 0))) I).1), J)).2, c', w)) (k2 : I f_mg_isSet (q_kp I (-1) (I f_m_next 0)) = 0 → ∀ p' c' n', q_X p p' → q_L p' (q_st nk nr np (s_up I f_m_next 0 (q_nx I), J)).1 c' a b n' → n' ≤ n + np → Q (.inl (some (.int (q_nx I)))) (p', q_an (q_st nk nr np (s_up I f_m_next 0 (q_nx I), J)).1, (q_st nk nr np (s_up I f_m_next 0 (q_nx I), J)).2, c', w)) : s_c X (d + 10) 299 [.ref (p.1 T_MODEL 0)] (p, I, J, c, w) Q := by
  have hM := hG.1
  have hp := hM.1
  have hk40 := hM.2.1
  have hr10 := hM.2.2.1
  have hnp := hM.2.2.2.1
  have hv := hKM.1 _ (q_kp_lt hKM.2.2.2 hq)
  have hG1 := hG.eqN (s_eqN.qmt (nk := nk) (y := J j_mg_knobs (q_kp I (-1) (I f_m_next 0))) (z := J j_mg_drawn (q_kp I (-1) (I f_m_next 0)))) (by decide)
  refine m_X16_step (Nat.le_of_ble_eq_true rfl) ?_
  show s_w _ _ _ 0 _ _ _ _
  refine w_op (pc' := 1) dX16_step_0 rfl ?_
  refine w_iconst (v := (-1)) dX16_step_1 rfl ?_
  refine w_op (pc' := 3) dX16_step_2 rfl ?_
  refine t_getI (F := f_m_next) dX16_step_3 rfl rfl (by decide) rfl ⟨rfl, fun _ => rfl⟩ (hp.1 _ rfl) ?_
  refine t_callV (t := T_MODEL) (As := [_, _]) dX16_step_6 rfl rM_X16_keeping (by decide) rfl rfl (by decide) (by decide) (Nat.le_of_ble_eq_true rfl) rfl (hp.1 _ rfl) (c_X16_keeping hp hKM hq ?_)
  show s_w _ _ _ 9 _ _ _ _
  refine t_getI (F := f_mg_isSet) dX16_step_9 rfl rfl (by decide) rfl ⟨rfl, fun _ => rfl⟩ (by assumption) ?_
  refine w_ifeq (t := 29) dX16_step_12 (by decide) (fun c12 => ?_) (fun c12 => ?_)
  · exact l_X16_step hG hX (fun p1 c1 n1 x1 hL1 hn1 => k2 c12 p1 c1 n1 x1 hL1 hn1)
  · refine w_op (pc' := 16) dX16_step_15 rfl ?_
    refine w_op (pc' := 17) dX16_step_16 rfl ?_
    refine w_iconst (v := (-1)) dX16_step_17 rfl ?_
    refine w_op (pc' := 19) dX16_step_18 rfl ?_
    refine t_getI (F := f_m_next) dX16_step_19 rfl rfl (by decide) rfl ⟨rfl, fun _ => rfl⟩ (hp.1 _ rfl) ?_
    refine t_callV (t := T_MODEL) (As := [_, _]) dX16_step_22 rfl rM_X16_keeping (by decide) rfl rfl (by decide) (by decide) (Nat.le_of_ble_eq_true rfl) rfl (hp.1 _ rfl) (c_X16_keeping hp hKM hq ?_)
    show s_w _ _ _ 25 _ _ _ _
    refine t_callV (t := T_MODEL) (As := [_]) dX16_step_25 rfl rM_X16_moves_ (by decide) rfl rfl (by decide) (by decide) (Nat.le_of_ble_eq_true rfl) rfl (hp.1 _ rfl) (c_X16_moves_ hM hv ?_)
    show s_w _ _ _ 28 _ _ _ _
    refine w_op (pc' := 29) dX16_step_28 rfl ?_
    exact l_X16_step hG1 hX (fun p1 c1 n1 x1 hL1 hn1 => k c12 p1 c1 n1 x1 hL1 hn1)

set_option maxRecDepth 100000 in
set_option maxHeartbeats 800000 in
theorem c_X16_setReversible {X : e_XT} {d : Nat} {p : e_Sp} {I : e_I} {J : e_Jt} {c : Nat × Nat} {w : e_Rw1} {Q : e_Rt → e_SS → Prop} {nk nr np a b n : Nat} (hG : q_G p I c nk nr np a b n) (hX : (X 8).1 = 0) (hlv : q_lv I) {x y : Int32} (k : (0 ≤ x ∧ x ≤ 3) → (0 ≤ y ∧ y < nI nk) → q_ot I = false → ∀ p' c' n', q_X p p' → q_L p' (q_st nk nr np (s_up I f_m_reversible (q_ri I x) y, J)).1 c' a b n' → n' ≤ n + np → Q (.inl (some (.int (I f_m_reversible (q_ri I x))))) (p', q_an (q_st nk nr np (s_up I f_m_reversible (q_ri I x) y, J)).1, (q_st nk nr np (s_up I f_m_reversible (q_ri I x) y, J)).2, c', w)) (kx : ¬ ((0 ≤ x ∧ x ≤ 3) ∧ (0 ≤ y ∧ y < nI nk)) → Q (.inl (some (.int 0))) (p, q_fl I 1, J, c, w)) (kx2 : (0 ≤ x ∧ x ≤ 3) → (0 ≤ y ∧ y < nI nk) → q_ot I = true → Q (.inl (some (.int 0))) (p, q_fl I 2, J, c, w)) : s_c X (d + 10) 297 [.ref (p.1 T_MODEL 0), .int x, .int y] (p, I, J, c, w) Q := by
  have hM := hG.1
  have hp := hM.1
  have hk40 := hM.2.1
  have hr10 := hM.2.2.1
  have hnp := hM.2.2.2.1
  refine m_X16_setReversible (Nat.le_of_ble_eq_true rfl) ?_
  show s_w _ _ _ 0 _ _ _ _
  refine w_op (pc' := 1) dX16_setReversible_0 rfl ?_
  refine w_iconst (v := 0) dX16_setReversible_1 rfl ?_
  refine w_iconst (v := 3) dX16_setReversible_2 rfl ?_
  refine t_callS (As := [_, _, _]) dX16_setReversible_3 rfl rM_X16_in (by decide) rfl rfl (by decide) (Nat.le_of_ble_eq_true rfl) (c_X16_in ?_)
  show s_w _ _ _ 6 _ _ _ _
  refine w_ifeq (t := 17) dX16_setReversible_6 (by decide) (fun c6 => ?_) (fun c6 => ?_)
  · refine w_op (pc' := 18) dX16_setReversible_17 rfl ?_
    refine w_iconst (v := 1) dX16_setReversible_18 rfl ?_
    refine t_callV (t := T_MODEL) (As := [_]) dX16_setReversible_19 rfl rM_X16_fails (by decide) rfl rfl (by decide) (by decide) (Nat.le_of_ble_eq_true rfl) rfl (hp.1 _ rfl) (c_X16_fails hp ?_)
    show s_w _ _ _ 22 _ _ _ _
    exact w_ireturn dX16_setReversible_22 ⟨rfl, kx (fun u => (of_decide_eq_false (bI_0.mp c6)) u.1)⟩
  · refine w_op (pc' := 10) dX16_setReversible_9 rfl ?_
    refine w_op (pc' := 11) dX16_setReversible_10 rfl ?_
    refine t_callV (t := T_MODEL) (As := [_]) dX16_setReversible_11 rfl rM_X16_isKnob (by decide) rfl rfl (by decide) (by decide) (Nat.le_of_ble_eq_true rfl) rfl (hp.1 _ rfl) (c_X16_isKnob hM ?_)
    show s_w _ _ _ 14 _ _ _ _
    refine w_ifne (t := 23) dX16_setReversible_14 (by decide) (fun c14 => ?_) (fun c14 => ?_)
    · have hd := of_decide_eq_true (bI_n0.mp c6)
      have hix := q_ixr hlv hd
      refine w_op (pc' := 24) dX16_setReversible_23 rfl ?_
      refine t_callV (t := T_MODEL) (As := []) dX16_setReversible_24 rfl rM_X16_isOthers (by decide) rfl rfl (by decide) (by decide) (Nat.le_of_ble_eq_true rfl) rfl (hp.1 _ rfl) (c_X16_isOthers hp hlv ?_)
      show s_w _ _ _ 27 _ _ _ _
      refine w_ifeq (t := 36) dX16_setReversible_27 (by decide) (fun c27 => ?_) (fun c27 => ?_)
      · refine w_op (pc' := 37) dX16_setReversible_36 rfl ?_
        refine t_getG0 (G := g_m_reversible) dX16_setReversible_37 rfl rfl (by decide) rfl (fun _ => rfl) (hp.1 _ rfl) ?_
        refine w_iconst (v := 4) dX16_setReversible_40 rfl ?_
        refine w_op (pc' := 42) dX16_setReversible_41 rfl ?_
        refine t_getI (F := f_m_level) dX16_setReversible_42 rfl rfl (by decide) rfl ⟨rfl, fun _ => rfl⟩ (hp.1 _ rfl) ?_
        refine w_op (pc' := 46) dX16_setReversible_45 rfl ?_
        refine w_op (pc' := 47) dX16_setReversible_46 rfl ?_
        refine w_op (pc' := 48) dX16_setReversible_47 rfl ?_
        refine t_iald0 (F := f_m_reversible) dX16_setReversible_48 rfl (by decide) rfl (hp.1 _ rfl) hix hix.2.2 ?_
        refine w_op (pc' := 50) (ll' := [_, _, _, _]) dX16_setReversible_49 rfl ?_
        refine w_op (pc' := 51) dX16_setReversible_50 rfl ?_
        refine t_getG0 (G := g_m_reversible) dX16_setReversible_51 rfl rfl (by decide) rfl (fun _ => rfl) (hp.1 _ rfl) ?_
        refine w_iconst (v := 4) dX16_setReversible_54 rfl ?_
        refine w_op (pc' := 56) dX16_setReversible_55 rfl ?_
        refine t_getI (F := f_m_level) dX16_setReversible_56 rfl rfl (by decide) rfl ⟨rfl, fun _ => rfl⟩ (hp.1 _ rfl) ?_
        refine w_op (pc' := 60) dX16_setReversible_59 rfl ?_
        refine w_op (pc' := 61) dX16_setReversible_60 rfl ?_
        refine w_op (pc' := 62) dX16_setReversible_61 rfl ?_
        refine w_op (pc' := 63) dX16_setReversible_62 rfl ?_
        refine t_iast0 (F := f_m_reversible) dX16_setReversible_63 rfl (by decide) (by decide) rfl (hp.1 _ rfl) hix hix.2.2 ?_
        refine w_op (pc' := 65) dX16_setReversible_64 rfl ?_
        refine w_op (pc' := 66) dX16_setReversible_65 rfl ?_
        refine t_callV (t := T_MODEL) (As := [_]) dX16_setReversible_66 rfl rM_X16_settled (by decide) rfl rfl (by decide) (by decide) (Nat.le_of_ble_eq_true rfl) rfl (hp.1 _ rfl) (c_X16_settled (hG.up (by decide)) hX (fun p1 c1 n1 x1 hL1 hn1 => ?_))
        show s_w _ _ _ 69 _ _ _ _
        exact w_ireturn dX16_setReversible_69 ⟨rfl, k hd (of_decide_eq_true (bI_n0.mp c14)) (bI_0.mp c27) p1 c1 n1 x1 hL1 hn1⟩
      · refine w_op (pc' := 31) dX16_setReversible_30 rfl ?_
        refine w_iconst (v := 2) dX16_setReversible_31 rfl ?_
        refine t_callV (t := T_MODEL) (As := [_]) dX16_setReversible_32 rfl rM_X16_fails (by decide) rfl rfl (by decide) (by decide) (Nat.le_of_ble_eq_true rfl) rfl (hp.1 _ rfl) (c_X16_fails hp ?_)
        show s_w _ _ _ 35 _ _ _ _
        exact w_ireturn dX16_setReversible_35 ⟨rfl, kx2 hd (of_decide_eq_true (bI_n0.mp c14)) (bI_n0.mp c27)⟩
    · refine w_op (pc' := 18) dX16_setReversible_17 rfl ?_
      refine w_iconst (v := 1) dX16_setReversible_18 rfl ?_
      refine t_callV (t := T_MODEL) (As := [_]) dX16_setReversible_19 rfl rM_X16_fails (by decide) rfl rfl (by decide) (by decide) (Nat.le_of_ble_eq_true rfl) rfl (hp.1 _ rfl) (c_X16_fails hp ?_)
      show s_w _ _ _ 22 _ _ _ _
      exact w_ireturn dX16_setReversible_22 ⟨rfl, kx (fun u => (of_decide_eq_false (bI_0.mp c14)) u.2)⟩

set_option maxRecDepth 100000 in
set_option maxHeartbeats 800000 in
theorem c_X16_pushReversible {X : e_XT} {d : Nat} {p : e_Sp} {I : e_I} {J : e_Jt} {c : Nat × Nat} {w : e_Rw1} {Q : e_Rt → e_SS → Prop} {nk nr np a b n : Nat} (hG : q_G p I c nk nr np a b n) (hX : (X 8).1 = 0) (hlv : q_lv I) (hR : ∀ j, j < 16 → I f_m_reversible j = -1 ∨ ∃ k, k < nk ∧ I f_m_reversible j = nI k) {x : Int32} (k : (0 ≤ x ∧ x ≤ 3) → ∀ kk, kk < nk → I f_m_reversible (q_ri I x) = nI kk → ∀ p' c' n', q_X p p' → q_L p' (q_st nk nr np (s_up I f_mk_isDrawn kk (bI (decide (bI (decide (I f_mk_isLocked kk = 0)) ≠ I f_mk_isDrawn kk))), J)).1 c' a b n' → n' ≤ n + np → Q (.inl (some (.int (bI (decide (I f_mk_isLocked kk = 0)))))) (p', q_an (q_st nk nr np (s_up I f_mk_isDrawn kk (bI (decide (bI (decide (I f_mk_isLocked kk = 0)) ≠ I f_mk_isDrawn kk))), J)).1, (q_st nk nr np (s_up I f_mk_isDrawn kk (bI (decide (bI (decide (I f_mk_isLocked kk = 0)) ≠ I f_mk_isDrawn kk))), J)).2, c', w)) (kx : ¬ (0 ≤ x ∧ x ≤ 3) → Q (.inl (some (.int 0))) (p, q_fl I 1, J, c, w)) (kx2 : (0 ≤ x ∧ x ≤ 3) → I f_m_reversible (q_ri I x) = -1 → Q (.inl (some (.int 0))) (p, q_fl I 2, J, c, w)) : s_c X (d + 10) 298 [.ref (p.1 T_MODEL 0), .int x] (p, I, J, c, w) Q := by
  have hM := hG.1
  have hp := hM.1
  have hk40 := hM.2.1
  have hr10 := hM.2.2.1
  have hnp := hM.2.2.2.1
  refine m_X16_pushReversible (Nat.le_of_ble_eq_true rfl) ?_
  show s_w _ _ _ 0 _ _ _ _
  refine w_op (pc' := 1) dX16_pushReversible_0 rfl ?_
  refine w_iconst (v := 0) dX16_pushReversible_1 rfl ?_
  refine w_iconst (v := 3) dX16_pushReversible_2 rfl ?_
  refine t_callS (As := [_, _, _]) dX16_pushReversible_3 rfl rM_X16_in (by decide) rfl rfl (by decide) (Nat.le_of_ble_eq_true rfl) (c_X16_in ?_)
  show s_w _ _ _ 6 _ _ _ _
  refine w_ifne (t := 15) dX16_pushReversible_6 (by decide) (fun c6 => ?_) (fun c6 => ?_)
  · have hd := of_decide_eq_true (bI_n0.mp c6)
    have hix := q_ixr hlv hd
    refine w_op (pc' := 16) dX16_pushReversible_15 rfl ?_
    refine t_getG0 (G := g_m_reversible) dX16_pushReversible_16 rfl rfl (by decide) rfl (fun _ => rfl) (hp.1 _ rfl) ?_
    refine w_iconst (v := 4) dX16_pushReversible_19 rfl ?_
    refine w_op (pc' := 21) dX16_pushReversible_20 rfl ?_
    refine t_getI (F := f_m_level) dX16_pushReversible_21 rfl rfl (by decide) rfl ⟨rfl, fun _ => rfl⟩ (hp.1 _ rfl) ?_
    refine w_op (pc' := 25) dX16_pushReversible_24 rfl ?_
    refine w_op (pc' := 26) dX16_pushReversible_25 rfl ?_
    refine w_op (pc' := 27) dX16_pushReversible_26 rfl ?_
    refine t_iald0 (F := f_m_reversible) dX16_pushReversible_27 rfl (by decide) rfl (hp.1 _ rfl) hix hix.2.2 ?_
    refine w_iconst (v := (-1)) dX16_pushReversible_28 rfl ?_
    refine w_icmpne (t := 38) dX16_pushReversible_29 (by decide) (fun c29 => ?_) (fun c29 => ?_)
    · obtain ⟨kk, hk, ekk⟩ := (hR _ hix.2.2).resolve_left c29
      have hv := (hM.2.2.2.2.1 kk hk).1
      refine w_op (pc' := 39) dX16_pushReversible_38 rfl ?_
      refine t_getG0 (G := g_m_list1) dX16_pushReversible_39 rfl rfl (by decide) rfl (fun _ => rfl) (hp.1 _ rfl) ?_
      refine w_op (pc' := 43) dX16_pushReversible_42 rfl ?_
      refine t_getG0 (G := g_m_reversible) dX16_pushReversible_43 rfl rfl (by decide) rfl (fun _ => rfl) (hp.1 _ rfl) ?_
      refine w_iconst (v := 4) dX16_pushReversible_46 rfl ?_
      refine w_op (pc' := 48) dX16_pushReversible_47 rfl ?_
      refine t_getI (F := f_m_level) dX16_pushReversible_48 rfl rfl (by decide) rfl ⟨rfl, fun _ => rfl⟩ (hp.1 _ rfl) ?_
      refine w_op (pc' := 52) dX16_pushReversible_51 rfl ?_
      refine w_op (pc' := 53) dX16_pushReversible_52 rfl ?_
      refine w_op (pc' := 54) dX16_pushReversible_53 rfl ?_
      refine t_iald0 (F := f_m_reversible) dX16_pushReversible_54 rfl (by decide) rfl (hp.1 _ rfl) hix hix.2.2 ?_
      rw [ekk]
      refine t_callV (t := T_LIST) (As := [_]) dX16_pushReversible_55 rfl rM_Jx4a65c_get_915e3 (by decide) rfl rfl (by decide) (by decide) (Nat.le_of_ble_eq_true rfl) rfl (hp.2 _ (by decide)) (c_get3 hp hk40.2 (by omega) hk ?_)
      show s_w _ _ _ 58 _ _ _ _
      refine t_chk dX16_pushReversible_58 rfl rfl (by decide) (by assumption) ?_
      refine w_op (pc' := 62) (ll' := [_, _, _, _]) dX16_pushReversible_61 rfl ?_
      refine w_op (pc' := 63) dX16_pushReversible_62 rfl ?_
      refine t_getI (F := f_mk_isLocked) dX16_pushReversible_63 rfl rfl (by decide) rfl ⟨rfl, fun _ => rfl⟩ (by assumption) ?_
      refine w_ifne (t := 73) dX16_pushReversible_66 (by decide) (fun c66 => ?_) (fun c66 => ?_)
      · refine w_iconst (v := 0) dX16_pushReversible_73 rfl ?_
        refine w_op (pc' := 75) (ll' := [_, _, _, _]) dX16_pushReversible_74 rfl ?_
        refine w_op (pc' := 76) dX16_pushReversible_75 rfl ?_
        refine w_op (pc' := 77) dX16_pushReversible_76 rfl ?_
        refine w_op (pc' := 78) dX16_pushReversible_77 rfl ?_
        refine t_getI (F := f_mk_isDrawn) dX16_pushReversible_78 rfl rfl (by decide) rfl ⟨rfl, fun _ => rfl⟩ (by assumption) ?_
        refine w_icmpeq (t := 88) dX16_pushReversible_81 (by decide) (fun c81 => ?_) (fun c81 => ?_)
        · refine w_iconst (v := 0) dX16_pushReversible_88 rfl ?_
          refine t_putI (F := f_mk_isDrawn) dX16_pushReversible_89 rfl rfl (by decide) (by decide) rfl (s_ckb (by first | exact Or.inl rfl | exact Or.inr rfl | assumption)) (Or.inl rfl) (by assumption) ?_
          refine w_op (pc' := 93) dX16_pushReversible_92 rfl ?_
          refine w_op (pc' := 94) dX16_pushReversible_93 rfl ?_
          refine t_callV (t := T_MODEL) (As := [_]) dX16_pushReversible_94 rfl rM_X16_settledSo (by decide) rfl rfl (by decide) (by decide) (Nat.le_of_ble_eq_true rfl) rfl (hp.1 _ rfl) (c_X16_settledSo (hG.up (by decide)) hX (by first | exact Or.inl rfl | exact Or.inr rfl) (fun p1 c1 n1 x1 hL1 hn1 => ?_))
          show s_w _ _ _ 97 _ _ _ _
          exact w_ireturn dX16_pushReversible_97 ⟨s_rcb (by first | exact Or.inl rfl | exact Or.inr rfl), (by have k9 := k hd kk hk ekk; rw [show bI (decide (I f_mk_isLocked kk = 0)) = 0 from bI_f c66, show bI (decide ((0 : Int32) ≠ I f_mk_isDrawn kk)) = 0 from bI_f (fun u => u c81)] at k9; exact k9 p1 c1 n1 x1 hL1 hn1)⟩
        · refine w_iconst (v := 1) dX16_pushReversible_84 rfl ?_
          refine w_goto (t := 89) dX16_pushReversible_85 (by decide) ?_
          refine t_putI (F := f_mk_isDrawn) dX16_pushReversible_89 rfl rfl (by decide) (by decide) rfl (s_ckb (by first | exact Or.inl rfl | exact Or.inr rfl | assumption)) (Or.inl rfl) (by assumption) ?_
          refine w_op (pc' := 93) dX16_pushReversible_92 rfl ?_
          refine w_op (pc' := 94) dX16_pushReversible_93 rfl ?_
          refine t_callV (t := T_MODEL) (As := [_]) dX16_pushReversible_94 rfl rM_X16_settledSo (by decide) rfl rfl (by decide) (by decide) (Nat.le_of_ble_eq_true rfl) rfl (hp.1 _ rfl) (c_X16_settledSo (hG.up (by decide)) hX (by first | exact Or.inl rfl | exact Or.inr rfl) (fun p1 c1 n1 x1 hL1 hn1 => ?_))
          show s_w _ _ _ 97 _ _ _ _
          exact w_ireturn dX16_pushReversible_97 ⟨s_rcb (by first | exact Or.inl rfl | exact Or.inr rfl), (by have k9 := k hd kk hk ekk; rw [show bI (decide (I f_mk_isLocked kk = 0)) = 0 from bI_f c66, show bI (decide ((0 : Int32) ≠ I f_mk_isDrawn kk)) = 1 from bI_t c81] at k9; exact k9 p1 c1 n1 x1 hL1 hn1)⟩
      · refine w_iconst (v := 1) dX16_pushReversible_69 rfl ?_
        refine w_goto (t := 74) dX16_pushReversible_70 (by decide) ?_
        refine w_op (pc' := 75) (ll' := [_, _, _, _]) dX16_pushReversible_74 rfl ?_
        refine w_op (pc' := 76) dX16_pushReversible_75 rfl ?_
        refine w_op (pc' := 77) dX16_pushReversible_76 rfl ?_
        refine w_op (pc' := 78) dX16_pushReversible_77 rfl ?_
        refine t_getI (F := f_mk_isDrawn) dX16_pushReversible_78 rfl rfl (by decide) rfl ⟨rfl, fun _ => rfl⟩ (by assumption) ?_
        refine w_icmpeq (t := 88) dX16_pushReversible_81 (by decide) (fun c81 => ?_) (fun c81 => ?_)
        · refine w_iconst (v := 0) dX16_pushReversible_88 rfl ?_
          refine t_putI (F := f_mk_isDrawn) dX16_pushReversible_89 rfl rfl (by decide) (by decide) rfl (s_ckb (by first | exact Or.inl rfl | exact Or.inr rfl | assumption)) (Or.inl rfl) (by assumption) ?_
          refine w_op (pc' := 93) dX16_pushReversible_92 rfl ?_
          refine w_op (pc' := 94) dX16_pushReversible_93 rfl ?_
          refine t_callV (t := T_MODEL) (As := [_]) dX16_pushReversible_94 rfl rM_X16_settledSo (by decide) rfl rfl (by decide) (by decide) (Nat.le_of_ble_eq_true rfl) rfl (hp.1 _ rfl) (c_X16_settledSo (hG.up (by decide)) hX (by first | exact Or.inl rfl | exact Or.inr rfl) (fun p1 c1 n1 x1 hL1 hn1 => ?_))
          show s_w _ _ _ 97 _ _ _ _
          exact w_ireturn dX16_pushReversible_97 ⟨s_rcb (by first | exact Or.inl rfl | exact Or.inr rfl), (by have k9 := k hd kk hk ekk; rw [show bI (decide (I f_mk_isLocked kk = 0)) = 1 from bI_t c66, show bI (decide ((1 : Int32) ≠ I f_mk_isDrawn kk)) = 0 from bI_f (fun u => u c81)] at k9; exact k9 p1 c1 n1 x1 hL1 hn1)⟩
        · refine w_iconst (v := 1) dX16_pushReversible_84 rfl ?_
          refine w_goto (t := 89) dX16_pushReversible_85 (by decide) ?_
          refine t_putI (F := f_mk_isDrawn) dX16_pushReversible_89 rfl rfl (by decide) (by decide) rfl (s_ckb (by first | exact Or.inl rfl | exact Or.inr rfl | assumption)) (Or.inl rfl) (by assumption) ?_
          refine w_op (pc' := 93) dX16_pushReversible_92 rfl ?_
          refine w_op (pc' := 94) dX16_pushReversible_93 rfl ?_
          refine t_callV (t := T_MODEL) (As := [_]) dX16_pushReversible_94 rfl rM_X16_settledSo (by decide) rfl rfl (by decide) (by decide) (Nat.le_of_ble_eq_true rfl) rfl (hp.1 _ rfl) (c_X16_settledSo (hG.up (by decide)) hX (by first | exact Or.inl rfl | exact Or.inr rfl) (fun p1 c1 n1 x1 hL1 hn1 => ?_))
          show s_w _ _ _ 97 _ _ _ _
          exact w_ireturn dX16_pushReversible_97 ⟨s_rcb (by first | exact Or.inl rfl | exact Or.inr rfl), (by have k9 := k hd kk hk ekk; rw [show bI (decide (I f_mk_isLocked kk = 0)) = 1 from bI_t c66, show bI (decide ((1 : Int32) ≠ I f_mk_isDrawn kk)) = 1 from bI_t c81] at k9; exact k9 p1 c1 n1 x1 hL1 hn1)⟩
    · refine w_op (pc' := 33) dX16_pushReversible_32 rfl ?_
      refine w_iconst (v := 2) dX16_pushReversible_33 rfl ?_
      refine t_callV (t := T_MODEL) (As := [_]) dX16_pushReversible_34 rfl rM_X16_refuses (by decide) rfl rfl (by decide) (by decide) (Nat.le_of_ble_eq_true rfl) rfl (hp.1 _ rfl) (c_X16_refuses hp ?_)
      show s_w _ _ _ 37 _ _ _ _
      exact w_ireturn dX16_pushReversible_37 ⟨s_rcb (Or.inl rfl), kx2 hd c29⟩
  · refine w_op (pc' := 10) dX16_pushReversible_9 rfl ?_
    refine w_iconst (v := 1) dX16_pushReversible_10 rfl ?_
    refine t_callV (t := T_MODEL) (As := [_]) dX16_pushReversible_11 rfl rM_X16_refuses (by decide) rfl rfl (by decide) (by decide) (Nat.le_of_ble_eq_true rfl) rfl (hp.1 _ rfl) (c_X16_refuses hp ?_)
    show s_w _ _ _ 14 _ _ _ _
    exact w_ireturn dX16_pushReversible_14 ⟨s_rcb (Or.inl rfl), kx (of_decide_eq_false (bI_0.mp c6))⟩

