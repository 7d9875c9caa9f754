/-! 90: the second implementation's readers (printed by wip/whole/p90.py) -/
theorem w_sw3 {X : e_XT} {d : Nat} {K : e_KT} {pc ta tb tc td : Nat} {ll : e_LL} {st : List Value} {S : e_SS} {Q : e_Rt → e_SS → Prop} {x : Int32} {df a oa b ob c oc : Int} (hd : decode K.2.2.1 pc = .ok (.lookupswitch df #[(a, oa), (b, ob), (c, oc)], 36)) (hs : a < b ∧ b < c) (ha : (pc : Int) + oa = (ta : Int)) (hb : (pc : Int) + ob = (tb : Int)) (hc : (pc : Int) + oc = (tc : Int)) (hdf : (pc : Int) + df = (td : Int))
    (ka : x.toInt = a → s_w X d K ta ll st S Q) (kb : x.toInt = b → s_w X d K tb ll st S Q) (kc : x.toInt = c → s_w X d K tc ll st S Q) (kd : (x.toInt ≠ a ∧ x.toInt ≠ b ∧ x.toInt ≠ c) → s_w X d K td ll st S Q) : s_w X d K pc ll (.int x :: st) S Q := by
  have hj : ∀ (off : Int) (t : Nat), (pc : Int) + off = (t : Int) → Op.lookupswitch.offset [(a, oa), (b, ob), (c, oc)] df x.toInt = off → e_op K.2.2.2.1 (.lookupswitch df #[(a, oa), (b, ob), (c, oc)]) 36 pc ll (.int x :: st) = some (t, ll, st) := by
    intro off t ht ho
    have hg : e_opH (.lookupswitch df #[(a, oa), (b, ob), (c, oc)]) 36 pc ll (.int x :: st) = e_jmp true pc (Op.lookupswitch.offset [(a, oa), (b, ob), (c, oc)] df x.toInt) 0 ll st := by
      unfold e_opH
      simp [hs.1, hs.2]
    show e_opH (.lookupswitch df #[(a, oa), (b, ob), (c, oc)]) 36 pc ll (.int x :: st) = _
    rw [hg, ho]
    unfold e_jmp e_go
    rw [ht]
    rfl
  by_cases h1 : x.toInt = a
  · exact w_op hd (hj oa ta ha (by simp [Op.lookupswitch.offset, h1])) (ka h1)
  · by_cases h2 : x.toInt = b
    · exact w_op hd (hj ob tb hb (by simp [Op.lookupswitch.offset, Ne.symm h1, h2, show ¬ a = b by omega])) (kb h2)
    · by_cases h3 : x.toInt = c
      · exact w_op hd (hj oc tc hc (by simp [Op.lookupswitch.offset, h3, show ¬ a = c by omega, show ¬ b = c by omega])) (kc h3)
      · exact w_op hd (hj df td hdf (by simp [Op.lookupswitch.offset, Ne.symm h1, Ne.symm h2, Ne.symm h3])) (kd ⟨h1, h2, h3⟩)
def q_kT : List Nat := [T_K_wires, T_K_ranks, T_K_offsets, T_K_froms, T_K_tos]
def q_K (p : e_Sp) (I : e_I) (k : Nat) : Prop := p.2.1 T_MKNOB k = true ∧ (∀ t, t ∈ q_kT → p.2.1 t k = true) ∧ (∃ dv, dv < 3 ∧ I f_mk_division k = nI dv) ∧ (∃ m, m ≤ 4 ∧ I f_mk_rows k = nI m) ∧ (I f_mk_relay k = -1 ∨ ∃ r, r < 16 ∧ I f_mk_relay k = nI r)
def q_R (p : e_Sp) (I : e_I) (np r : Nat) : Prop := p.2.1 T_MRANK r = true ∧ ∃ lo n b dv, I f_mr_lowest r = nI lo ∧ I f_mr_highest r = nI (lo + n) ∧ I f_mr_base r = nI b ∧ I f_mr_division r = nI dv ∧ lo + n ≤ 127 ∧ b + n < np ∧ dv < 3
/-- the second implementation stands: nk knobs, nr ranks, np pipes -/
def q_D (p : e_Sp) (I : e_I) (nk nr np : Nat) : Prop := s_ok p ∧ (nk ≤ 40 ∧ I f_l_size 3 = nI nk) ∧ (nr ≤ 10 ∧ I f_l_size 2 = nI nr) ∧ (np ≤ 1280 ∧ I f_m_pipes 0 = nI np) ∧ (∀ k, k < nk → q_K p I k) ∧ (∀ r, r < nr → q_R p I np r) ∧ ∀ q, q < np → ∃ r b, r < nr ∧ I f_m_rankOf q = nI r ∧ I f_mr_base r = nI b ∧ b ≤ q
/-- the fields that q_D speaks of -/
def q_ms : List Nat := [f_l_size, f_m_pipes, f_mk_division, f_mk_rows, f_mk_relay, f_mr_lowest, f_mr_highest, f_mr_base, f_mr_division, f_m_rankOf]
def q_fr (T : List Nat) : Bool := q_ms.all (fun F => !T.contains F)
def q_bo (I : e_I) (F : Nat) : Prop := ∀ i, I F i = 0 ∨ I F i = 1
theorem bI_b {x : Int32} (h : x = 0 ∨ x = 1) : bI (decide (x ≠ 0)) = x := by rcases h with rfl | rfl <;> rfl
theorem q_le1 {n : Nat} {x : Int32} (hn : n < 2147483648) : x ≤ nI n - 1 ↔ x < nI n := by
  have h := nI_toInt (n := n) hn
  have h1 : (1 : Int32).toInt = 1 := rfl
  rw [Int32.le_iff_toInt_le, Int32.lt_iff_toInt_lt, Int32.toInt_sub, h, h1, Int.bmod_eq_of_le (by omega) (by omega)]
  omega
def q_sk (x : Int32) : Prop := x < 100 ∨ (400 ≤ x ∧ x < 416) ∨ (¬ x < 100 ∧ x < 400 ∧ s_isk (x / 100 - 1) (x - x / 100 * 100))
def q_src (I : e_I) (nk : Nat) (x : Int32) : Bool := if x < 100 then decide (0 ≤ x ∧ x < nI nk) && decide (I f_mk_isDrawn x.toNatClampNeg ≠ 0) else if x < 400 then decide (I f_m_isDown (s_kn (x / 100 - 1) (x - x / 100 * 100)) ≠ 0) else decide (I f_m_isRelay (x - 400).toNatClampNeg ≠ 0)
def q_ct (I : e_I) (k : Nat) : Bool := decide (I f_mk_isDrawn k ≠ 0) || (decide (I f_mk_relay k ≠ -1) && decide (I f_m_isRelay (I f_mk_relay k).toNatClampNeg ≠ 0))
def q_so (I : e_I) (k : Nat) : Bool := q_ct I k || (decide (I f_m_isTutti 0 ≠ 0) || (decide (0 < I f_mk_stage k) && decide (I f_mk_stage k ≤ I f_m_crescendo 0)))
/-- the number of a pipe, and whether there is one -/
def q_ip (I : e_I) (nr : Nat) (x y : Int32) : Bool := decide (0 ≤ x ∧ x < nI nr) && decide (I f_mr_lowest x.toNatClampNeg ≤ y ∧ y ≤ I f_mr_highest x.toNatClampNeg)
def q_pp (I : e_I) (x y : Int32) : Int32 := I f_mr_base x.toNatClampNeg + y - I f_mr_lowest x.toNatClampNeg
theorem s_kn_mul {x y : Int32} (h : s_isk x y) : 61 * x + y = nI (s_kn x y) := by rw [Int32.mul_comm]; exact s_idx_mul h

set_option maxRecDepth 100000 in
set_option maxHeartbeats 4000000 in
theorem c_X16_in {X : e_XT} {d : Nat} {p : e_Sp} {I : e_I} {J : e_Jt} {c : Nat × Nat} {w : e_Rw1} {Q : e_Rt → e_SS → Prop} {x y z : Int32} (k : Q (.inl (some (.int (bI (decide (y ≤ x ∧ x ≤ z)))))) (p, I, J, c, w)) : s_c X (d + 0) 215 [.int x, .int y, .int z] (p, I, J, c, w) Q := by
  refine m_X16_in (Nat.le_of_ble_eq_true rfl) ?_
  show s_w _ _ _ 0 _ _ _ _
  refine w_op (pc' := 1) dX16_in_0 rfl ?_
  refine w_op (pc' := 2) dX16_in_1 rfl ?_
  refine w_icmplt (t := 14) dX16_in_2 (by decide) (fun c2 => ?_) (fun c2 => ?_)
  · refine w_iconst (v := 0) dX16_in_14 rfl ?_
    exact w_ireturn dX16_in_15 ⟨s_rcb (by first | exact Or.inl rfl | exact Or.inr rfl | exact bI_or _), s_eqi (by grind) k⟩
  · refine w_op (pc' := 6) dX16_in_5 rfl ?_
    refine w_op (pc' := 7) dX16_in_6 rfl ?_
    refine w_icmpgt (t := 14) dX16_in_7 (by decide) (fun c7 => ?_) (fun c7 => ?_)
    · refine w_iconst (v := 0) dX16_in_14 rfl ?_
      exact w_ireturn dX16_in_15 ⟨s_rcb (by first | exact Or.inl rfl | exact Or.inr rfl | exact bI_or _), s_eqi (by grind) k⟩
    · refine w_iconst (v := 1) dX16_in_10 rfl ?_
      refine w_goto (t := 15) dX16_in_11 (by decide) ?_
      exact w_ireturn dX16_in_15 ⟨s_rcb (by first | exact Or.inl rfl | exact Or.inr rfl | exact bI_or _), s_eqi (by grind) k⟩

set_option maxRecDepth 100000 in
set_option maxHeartbeats 4000000 in
theorem c_X16_isDivision {X : e_XT} {d : Nat} {p : e_Sp} {I : e_I} {J : e_Jt} {c : Nat × Nat} {w : e_Rw1} {Q : e_Rt → e_SS → Prop} {x : Int32} (k : Q (.inl (some (.int (bI (decide (0 ≤ x ∧ x ≤ 2)))))) (p, I, J, c, w)) : s_c X (d + 1) 216 [.int x] (p, I, J, c, w) Q := by
  refine m_X16_isDivision (Nat.le_of_ble_eq_true rfl) ?_
  show s_w _ _ _ 0 _ _ _ _
  refine w_op (pc' := 1) dX16_isDivision_0 rfl ?_
  refine w_iconst (v := 0) dX16_isDivision_1 rfl ?_
  refine w_iconst (v := 2) dX16_isDivision_2 rfl ?_
  refine t_callS (As := [_, _, _]) dX16_isDivision_3 rfl rM_X16_in (by decide) rfl rfl (by decide) (Nat.le_of_ble_eq_true rfl) (c_X16_in ?_)
  show s_w _ _ _ 6 _ _ _ _
  exact w_ireturn dX16_isDivision_6 ⟨s_rcb (by first | exact Or.inl rfl | exact Or.inr rfl | exact bI_or _), k⟩

set_option maxRecDepth 100000 in
set_option maxHeartbeats 4000000 in
theorem c_X16_keys {X : e_XT} {d : Nat} {p : e_Sp} {I : e_I} {J : e_Jt} {c : Nat × Nat} {w : e_Rw1} {Q : e_Rt → e_SS → Prop} {x : Int32} (k : Q (.inl (some (.int (nI (s_kcn x))))) (p, I, J, c, w)) : s_c X (d + 0) 225 [.int x] (p, I, J, c, w) Q := by
  refine m_X16_keys (Nat.le_of_ble_eq_true rfl) ?_
  show s_w _ _ _ 0 _ _ _ _
  refine w_op (pc' := 1) dX16_keys_0 rfl ?_
  refine w_ifne (t := 9) dX16_keys_1 (by decide) (fun c1 => ?_) (fun c1 => ?_)
  · refine w_bipush (v := 61) dX16_keys_9 rfl ?_
    exact w_ireturn dX16_keys_11 ⟨rfl, s_eqi (by rw [← s_kc_nI]; unfold s_kc; grind) k⟩
  · refine w_bipush (v := 32) dX16_keys_4 rfl ?_
    refine w_goto (t := 11) dX16_keys_6 (by decide) ?_
    exact w_ireturn dX16_keys_11 ⟨rfl, s_eqi (by rw [← s_kc_nI]; unfold s_kc; grind) k⟩

set_option maxRecDepth 100000 in
set_option maxHeartbeats 4000000 in
theorem c_X16_spot {X : e_XT} {d : Nat} {p : e_Sp} {I : e_I} {J : e_Jt} {c : Nat × Nat} {w : e_Rw1} {Q : e_Rt → e_SS → Prop} {x y : Int32} (h : s_isk x y) (k : Q (.inl (some (.int (nI (s_kn x y))))) (p, I, J, c, w)) : s_c X (d + 0) 224 [.int x, .int y] (p, I, J, c, w) Q := by
  refine m_X16_spot (Nat.le_of_ble_eq_true rfl) ?_
  show s_w _ _ _ 0 _ _ _ _
  refine w_bipush (v := 61) dX16_spot_0 rfl ?_
  refine w_op (pc' := 3) dX16_spot_2 rfl ?_
  refine w_op (pc' := 4) dX16_spot_3 rfl ?_
  refine w_op (pc' := 5) dX16_spot_4 rfl ?_
  refine w_op (pc' := 6) dX16_spot_5 rfl ?_
  exact w_ireturn dX16_spot_6 ⟨rfl, s_eqi (s_kn_mul h).symm k⟩

set_option maxRecDepth 100000 in
set_option maxHeartbeats 4000000 in
theorem c_X16_isRank {X : e_XT} {d : Nat} {p : e_Sp} {I : e_I} {J : e_Jt} {c : Nat × Nat} {w : e_Rw1} {Q : e_Rt → e_SS → Prop} {nk nr np : Nat} (hM : q_D p I nk nr np) {x : Int32} (k : Q (.inl (some (.int (bI (decide (0 ≤ x ∧ x < nI nr)))))) (p, I, J, c, w)) : s_c X (d + 2) 230 [.ref (p.1 T_MODEL 0), .int x] (p, I, J, c, w) Q := by
  have hp := hM.1
  have hk40 := hM.2.1
  have hr10 := hM.2.2.1
  refine m_X16_isRank (Nat.le_of_ble_eq_true rfl) ?_
  show s_w _ _ _ 0 _ _ _ _
  refine w_op (pc' := 1) dX16_isRank_0 rfl ?_
  refine w_iconst (v := 0) dX16_isRank_1 rfl ?_
  refine w_op (pc' := 3) dX16_isRank_2 rfl ?_
  refine t_getG0 (G := g_m_list0) dX16_isRank_3 rfl rfl (by decide) rfl (fun _ => rfl) (hp.1 _ rfl) ?_
  refine t_callV (t := T_LIST) (As := []) dX16_isRank_6 rfl rM_Jx4a65c_size_8abf5 (by decide) rfl rfl (by decide) (by decide) (Nat.le_of_ble_eq_true rfl) rfl (hp.2 _ (by decide)) (c_size (hp.2 _ (by decide)) ?_)
  show s_w _ _ _ 9 _ _ _ _
  rw [hr10.2]
  refine w_iconst (v := 1) dX16_isRank_9 rfl ?_
  refine w_op (pc' := 11) dX16_isRank_10 rfl ?_
  refine t_callS (As := [_, _, _]) dX16_isRank_11 rfl rM_X16_in (by decide) rfl rfl (by decide) (Nat.le_of_ble_eq_true rfl) (c_X16_in ?_)
  show s_w _ _ _ 14 _ _ _ _
  exact w_ireturn dX16_isRank_14 ⟨s_rcb (by first | exact Or.inl rfl | exact Or.inr rfl | exact bI_or _), s_eqi (congrArg bI (decide_eq_decide.mpr (and_congr Iff.rfl (q_le1 (by omega)).symm))) k⟩

set_option maxRecDepth 100000 in
set_option maxHeartbeats 4000000 in
theorem c_X16_isKnob {X : e_XT} {d : Nat} {p : e_Sp} {I : e_I} {J : e_Jt} {c : Nat × Nat} {w : e_Rw1} {Q : e_Rt → e_SS → Prop} {nk nr np : Nat} (hM : q_D p I nk nr np) {x : Int32} (k : Q (.inl (some (.int (bI (decide (0 ≤ x ∧ x < nI nk)))))) (p, I, J, c, w)) : s_c X (d + 2) 223 [.ref (p.1 T_MODEL 0), .int x] (p, I, J, c, w) Q := by
  have hp := hM.1
  have hk40 := hM.2.1
  have hr10 := hM.2.2.1
  refine m_X16_isKnob (Nat.le_of_ble_eq_true rfl) ?_
  show s_w _ _ _ 0 _ _ _ _
  refine w_op (pc' := 1) dX16_isKnob_0 rfl ?_
  refine w_iconst (v := 0) dX16_isKnob_1 rfl ?_
  refine w_op (pc' := 3) dX16_isKnob_2 rfl ?_
  refine t_getG0 (G := g_m_list1) dX16_isKnob_3 rfl rfl (by decide) rfl (fun _ => rfl) (hp.1 _ rfl) ?_
  refine t_callV (t := T_LIST) (As := []) dX16_isKnob_6 rfl rM_Jx4a65c_size_8abf5 (by decide) rfl rfl (by decide) (by decide) (Nat.le_of_ble_eq_true rfl) rfl (hp.2 _ (by decide)) (c_size (hp.2 _ (by decide)) ?_)
  show s_w _ _ _ 9 _ _ _ _
  rw [hk40.2]
  refine w_iconst (v := 1) dX16_isKnob_9 rfl ?_
  refine w_op (pc' := 11) dX16_isKnob_10 rfl ?_
  refine t_callS (As := [_, _, _]) dX16_isKnob_11 rfl rM_X16_in (by decide) rfl rfl (by decide) (Nat.le_of_ble_eq_true rfl) (c_X16_in ?_)
  show s_w _ _ _ 14 _ _ _ _
  exact w_ireturn dX16_isKnob_14 ⟨s_rcb (by first | exact Or.inl rfl | exact Or.inr rfl | exact bI_or _), s_eqi (congrArg bI (decide_eq_decide.mpr (and_congr Iff.rfl (q_le1 (by omega)).symm))) k⟩

set_option maxRecDepth 100000 in
set_option maxHeartbeats 4000000 in
theorem c_X16_isPipe {X : e_XT} {d : Nat} {p : e_Sp} {I : e_I} {J : e_Jt} {c : Nat × Nat} {w : e_Rw1} {Q : e_Rt → e_SS → Prop} {nk nr np : Nat} (hM : q_D p I nk nr np) {x y : Int32} (k : Q (.inl (some (.int (bI (q_ip I nr x y))))) (p, I, J, c, w)) : s_c X (d + 3) 229 [.ref (p.1 T_MODEL 0), .int x, .int y] (p, I, J, c, w) Q := by
  have hp := hM.1
  have hk40 := hM.2.1
  have hr10 := hM.2.2.1
  refine m_X16_isPipe (Nat.le_of_ble_eq_true rfl) ?_
  show s_w _ _ _ 0 _ _ _ _
  refine w_op (pc' := 1) dX16_isPipe_0 rfl ?_
  refine w_op (pc' := 2) dX16_isPipe_1 rfl ?_
  refine t_callV (t := T_MODEL) (As := [_]) dX16_isPipe_2 rfl rM_X16_isRank (by decide) rfl rfl (by decide) (by decide) (Nat.le_of_ble_eq_true rfl) rfl (hp.1 _ rfl) (c_X16_isRank hM ?_)
  show s_w _ _ _ 5 _ _ _ _
  refine w_ifeq (t := 47) dX16_isPipe_5 (by decide) (fun c5 => ?_) (fun c5 => ?_)
  · refine w_iconst (v := 0) dX16_isPipe_47 rfl ?_
    exact w_ireturn dX16_isPipe_48 ⟨s_rcb (by first | exact Or.inl rfl | exact Or.inr rfl | exact bI_or _), s_eqi (by unfold q_ip; grind) k⟩
  · have h5 := of_decide_eq_true (bI_n0.mp c5)
    obtain ⟨r, hr, rfl⟩ := s_nat h5.1 h5.2 (by omega)
    have hc := nI_clamp (n := r) (by omega)
    have hv := (hM.2.2.2.2.2.1 r hr).1
    refine w_op (pc' := 9) dX16_isPipe_8 rfl ?_
    refine w_op (pc' := 10) dX16_isPipe_9 rfl ?_
    refine t_getG0 (G := g_m_list0) dX16_isPipe_10 rfl rfl (by decide) rfl (fun _ => rfl) (hp.1 _ rfl) ?_
    refine w_op (pc' := 14) dX16_isPipe_13 rfl ?_
    refine t_callV (t := T_LIST) (As := [_]) dX16_isPipe_14 rfl rM_Jx4a65c_get_915e3 (by decide) rfl rfl (by decide) (by decide) (Nat.le_of_ble_eq_true rfl) rfl (hp.2 _ (by decide)) (c_get2 hp hr10.2 (by omega) hr ?_)
    show s_w _ _ _ 17 _ _ _ _
    refine t_chk dX16_isPipe_17 rfl rfl (by decide) (by assumption) ?_
    refine t_getI (F := f_mr_lowest) dX16_isPipe_20 rfl rfl (by decide) rfl ⟨rfl, fun _ => rfl⟩ (by assumption) ?_
    refine w_op (pc' := 24) dX16_isPipe_23 rfl ?_
    refine t_getG0 (G := g_m_list0) dX16_isPipe_24 rfl rfl (by decide) rfl (fun _ => rfl) (hp.1 _ rfl) ?_
    refine w_op (pc' := 28) dX16_isPipe_27 rfl ?_
    refine t_callV (t := T_LIST) (As := [_]) dX16_isPipe_28 rfl rM_Jx4a65c_get_915e3 (by decide) rfl rfl (by decide) (by decide) (Nat.le_of_ble_eq_true rfl) rfl (hp.2 _ (by decide)) (c_get2 hp hr10.2 (by omega) hr ?_)
    show s_w _ _ _ 31 _ _ _ _
    refine t_chk dX16_isPipe_31 rfl rfl (by decide) (by assumption) ?_
    refine t_getI (F := f_mr_highest) dX16_isPipe_34 rfl rfl (by decide) rfl ⟨rfl, fun _ => rfl⟩ (by assumption) ?_
    refine t_callS (As := [_, _, _]) dX16_isPipe_37 rfl rM_X16_in (by decide) rfl rfl (by decide) (Nat.le_of_ble_eq_true rfl) (c_X16_in ?_)
    show s_w _ _ _ 40 _ _ _ _
    refine w_ifeq (t := 47) dX16_isPipe_40 (by decide) (fun c40 => ?_) (fun c40 => ?_)
    · refine w_iconst (v := 0) dX16_isPipe_47 rfl ?_
      exact w_ireturn dX16_isPipe_48 ⟨s_rcb (by first | exact Or.inl rfl | exact Or.inr rfl | exact bI_or _), s_eqi (by unfold q_ip; rw [hc]; grind) k⟩
    · refine w_iconst (v := 1) dX16_isPipe_43 rfl ?_
      refine w_goto (t := 48) dX16_isPipe_44 (by decide) ?_
      exact w_ireturn dX16_isPipe_48 ⟨s_rcb (by first | exact Or.inl rfl | exact Or.inr rfl | exact bI_or _), s_eqi (by unfold q_ip; rw [hc]; grind) k⟩

set_option maxRecDepth 100000 in
set_option maxHeartbeats 4000000 in
theorem c_X16_pipe {X : e_XT} {d : Nat} {p : e_Sp} {I : e_I} {J : e_Jt} {c : Nat × Nat} {w : e_Rw1} {Q : e_Rt → e_SS → Prop} {nk nr np : Nat} (hM : q_D p I nk nr np) {x y : Int32} (hx : 0 ≤ x ∧ x < nI nr) (k : Q (.inl (some (.int (q_pp I x y)))) (p, I, J, c, w)) : s_c X (d + 3) 231 [.ref (p.1 T_MODEL 0), .int x, .int y] (p, I, J, c, w) Q := by
  have hp := hM.1
  have hk40 := hM.2.1
  have hr10 := hM.2.2.1
  obtain ⟨r, hr, rfl⟩ := s_nat hx.1 hx.2 (by omega)
  have hc := nI_clamp (n := r) (by omega)
  have hv := (hM.2.2.2.2.2.1 r hr).1
  refine m_X16_pipe (Nat.le_of_ble_eq_true rfl) ?_
  show s_w _ _ _ 0 _ _ _ _
  refine w_op (pc' := 1) dX16_pipe_0 rfl ?_
  refine t_getG0 (G := g_m_list0) dX16_pipe_1 rfl rfl (by decide) rfl (fun _ => rfl) (hp.1 _ rfl) ?_
  refine w_op (pc' := 5) dX16_pipe_4 rfl ?_
  refine t_callV (t := T_LIST) (As := [_]) dX16_pipe_5 rfl rM_Jx4a65c_get_915e3 (by decide) rfl rfl (by decide) (by decide) (Nat.le_of_ble_eq_true rfl) rfl (hp.2 _ (by decide)) (c_get2 hp hr10.2 (by omega) hr ?_)
  show s_w _ _ _ 8 _ _ _ _
  refine t_chk dX16_pipe_8 rfl rfl (by decide) (by assumption) ?_
  refine t_getI (F := f_mr_base) dX16_pipe_11 rfl rfl (by decide) rfl ⟨rfl, fun _ => rfl⟩ (by assumption) ?_
  refine w_op (pc' := 15) dX16_pipe_14 rfl ?_
  refine w_op (pc' := 16) dX16_pipe_15 rfl ?_
  refine w_op (pc' := 17) dX16_pipe_16 rfl ?_
  refine t_getG0 (G := g_m_list0) dX16_pipe_17 rfl rfl (by decide) rfl (fun _ => rfl) (hp.1 _ rfl) ?_
  refine w_op (pc' := 21) dX16_pipe_20 rfl ?_
  refine t_callV (t := T_LIST) (As := [_]) dX16_pipe_21 rfl rM_Jx4a65c_get_915e3 (by decide) rfl rfl (by decide) (by decide) (Nat.le_of_ble_eq_true rfl) rfl (hp.2 _ (by decide)) (c_get2 hp hr10.2 (by omega) hr ?_)
  show s_w _ _ _ 24 _ _ _ _
  refine t_chk dX16_pipe_24 rfl rfl (by decide) (by assumption) ?_
  refine t_getI (F := f_mr_lowest) dX16_pipe_27 rfl rfl (by decide) rfl ⟨rfl, fun _ => rfl⟩ (by assumption) ?_
  refine w_op (pc' := 31) dX16_pipe_30 rfl ?_
  exact w_ireturn dX16_pipe_31 ⟨rfl, s_eqi (by unfold q_pp; rw [hc]) k⟩

set_option maxRecDepth 100000 in
set_option maxHeartbeats 4000000 in
theorem c_X16_isStop {X : e_XT} {d : Nat} {p : e_Sp} {I : e_I} {J : e_Jt} {c : Nat × Nat} {w : e_Rw1} {Q : e_Rt → e_SS → Prop} {nk nr np : Nat} (hM : q_D p I nk nr np) {kk : Nat} (hk : kk < nk) (k : Q (.inl (some (.int (bI (decide (I f_mk_kind kk = 115)))))) (p, I, J, c, w)) : s_c X (d + 3) 243 [.ref (p.1 T_MODEL 0), .int (nI kk)] (p, I, J, c, w) Q := by
  have hp := hM.1
  have hk40 := hM.2.1
  have hr10 := hM.2.2.1
  have hv := (hM.2.2.2.2.1 kk hk).1
  refine m_X16_isStop (Nat.le_of_ble_eq_true rfl) ?_
  show s_w _ _ _ 0 _ _ _ _
  refine w_op (pc' := 1) dX16_isStop_0 rfl ?_
  refine t_getG0 (G := g_m_list1) dX16_isStop_1 rfl rfl (by decide) rfl (fun _ => rfl) (hp.1 _ rfl) ?_
  refine w_op (pc' := 5) dX16_isStop_4 rfl ?_
  refine t_callV (t := T_LIST) (As := [_]) dX16_isStop_5 rfl rM_Jx4a65c_get_915e3 (by decide) rfl rfl (by decide) (by decide) (Nat.le_of_ble_eq_true rfl) rfl (hp.2 _ (by decide)) (c_get3 hp hk40.2 (by omega) hk ?_)
  show s_w _ _ _ 8 _ _ _ _
  refine t_chk dX16_isStop_8 rfl rfl (by decide) (by assumption) ?_
  refine t_getI (F := f_mk_kind) dX16_isStop_11 rfl rfl (by decide) rfl ⟨rfl, fun _ => rfl⟩ (by assumption) ?_
  refine w_bipush (v := 115) dX16_isStop_14 rfl ?_
  refine w_icmpne (t := 23) dX16_isStop_16 (by decide) (fun c16 => ?_) (fun c16 => ?_)
  · refine w_iconst (v := 0) dX16_isStop_23 rfl ?_
    exact w_ireturn dX16_isStop_24 ⟨s_rcb (by first | exact Or.inl rfl | exact Or.inr rfl | exact bI_or _), s_eqi (by grind) k⟩
  · refine w_iconst (v := 1) dX16_isStop_19 rfl ?_
    refine w_goto (t := 24) dX16_isStop_20 (by decide) ?_
    exact w_ireturn dX16_isStop_24 ⟨s_rcb (by first | exact Or.inl rfl | exact Or.inr rfl | exact bI_or _), s_eqi (by grind) k⟩

set_option maxRecDepth 100000 in
set_option maxHeartbeats 4000000 in
theorem c_X16_source {X : e_XT} {d : Nat} {p : e_Sp} {I : e_I} {J : e_Jt} {c : Nat × Nat} {w : e_Rw1} {Q : e_Rt → e_SS → Prop} {nk nr np : Nat} (hM : q_D p I nk nr np) {x : Int32} (hx : q_sk x) (hb : q_bo I f_m_isDown) (hb2 : q_bo I f_m_isRelay) (k : Q (.inl (some (.int (bI (q_src I nk x))))) (p, I, J, c, w)) : s_c X (d + 3) 222 [.ref (p.1 T_MODEL 0), .int x] (p, I, J, c, w) Q := by
  have hp := hM.1
  have hk40 := hM.2.1
  have hr10 := hM.2.2.1
  refine m_X16_source (Nat.le_of_ble_eq_true rfl) ?_
  show s_w _ _ _ 0 _ _ _ _
  refine w_op (pc' := 1) dX16_source_0 rfl ?_
  refine w_bipush (v := 100) dX16_source_1 rfl ?_
  refine w_icmpge (t := 37) dX16_source_3 (by decide) (fun c3 => ?_) (fun c3 => ?_)
  · refine w_op (pc' := 38) dX16_source_37 rfl ?_
    refine w_sipush (v := 400) dX16_source_38 rfl ?_
    refine w_icmpge (t := 63) dX16_source_41 (by decide) (fun c41 => ?_) (fun c41 => ?_)
    · have h9 : s_ix (x - 400) (x - 400).toNatClampNeg 16 := s_ixo (by unfold q_sk at hx; grind) (show x - 400 < nI 16 by unfold q_sk at hx; rw [show nI 16 = 16 from rfl]; grind) (by decide)
      refine w_op (pc' := 64) dX16_source_63 rfl ?_
      refine t_getG0 (G := g_m_isRelay) dX16_source_64 rfl rfl (by decide) rfl (fun _ => rfl) (hp.1 _ rfl) ?_
      refine w_op (pc' := 68) dX16_source_67 rfl ?_
      refine w_sipush (v := 400) dX16_source_68 rfl ?_
      refine w_op (pc' := 72) dX16_source_71 rfl ?_
      refine t_bald0 (F := f_m_isRelay) dX16_source_72 rfl (by decide) rfl (hp.1 _ rfl) h9 h9.2.2 ?_
      exact w_ireturn dX16_source_73 ⟨s_rcb (hb2 _), s_eqi (by unfold q_src; rw [if_neg (by grind), if_neg (by grind)]; exact bI_b (hb2 _)) k⟩
    · have h9 : s_isk (x / 100 - 1) (x - x / 100 * 100) := by unfold q_sk at hx; grind
      refine w_op (pc' := 45) dX16_source_44 rfl ?_
      refine t_getG0 (G := g_m_isDown) dX16_source_45 rfl rfl (by decide) rfl (fun _ => rfl) (hp.1 _ rfl) ?_
      refine w_op (pc' := 49) dX16_source_48 rfl ?_
      refine w_bipush (v := 100) dX16_source_49 rfl ?_
      refine w_op (pc' := 52) dX16_source_51 (by rfl) ?_
      refine w_iconst (v := 1) dX16_source_52 rfl ?_
      refine w_op (pc' := 54) dX16_source_53 rfl ?_
      refine w_op (pc' := 55) dX16_source_54 rfl ?_
      refine w_bipush (v := 100) dX16_source_55 rfl ?_
      refine w_op (pc' := 58) dX16_source_57 (by rfl) ?_
      refine t_callS (As := [_, _]) dX16_source_58 rfl rM_X16_spot (by decide) rfl rfl (by decide) (Nat.le_of_ble_eq_true rfl) (c_X16_spot h9 ?_)
      show s_w _ _ _ 61 _ _ _ _
      refine t_bald0 (F := f_m_isDown) dX16_source_61 rfl (by decide) rfl (hp.1 _ rfl) (show s_ix _ _ 183 from s_ix.nI h9.lt (by decide)) h9.lt ?_
      exact w_ireturn dX16_source_62 ⟨s_rcb (hb _), s_eqi (by unfold q_src; rw [if_neg (by grind), if_pos (by grind)]; exact bI_b (hb _)) k⟩
  · refine w_op (pc' := 7) dX16_source_6 rfl ?_
    refine w_op (pc' := 8) dX16_source_7 rfl ?_
    refine t_callV (t := T_MODEL) (As := [_]) dX16_source_8 rfl rM_X16_isKnob (by decide) rfl rfl (by decide) (by decide) (Nat.le_of_ble_eq_true rfl) rfl (hp.1 _ rfl) (c_X16_isKnob hM ?_)
    show s_w _ _ _ 11 _ _ _ _
    refine w_ifeq (t := 35) dX16_source_11 (by decide) (fun c11 => ?_) (fun c11 => ?_)
    · refine w_iconst (v := 0) dX16_source_35 rfl ?_
      exact w_ireturn dX16_source_36 ⟨s_rcb (by first | exact Or.inl rfl | exact Or.inr rfl | exact bI_or _), s_eqi (by unfold q_src; grind) k⟩
    · have h11 := of_decide_eq_true (bI_n0.mp c11)
      obtain ⟨kk, hk, rfl⟩ := s_nat h11.1 h11.2 (by omega)
      have hc := nI_clamp (n := kk) (by omega)
      have hv := (hM.2.2.2.2.1 kk hk).1
      refine w_op (pc' := 15) dX16_source_14 rfl ?_
      refine t_getG0 (G := g_m_list1) dX16_source_15 rfl rfl (by decide) rfl (fun _ => rfl) (hp.1 _ rfl) ?_
      refine w_op (pc' := 19) dX16_source_18 rfl ?_
      refine t_callV (t := T_LIST) (As := [_]) dX16_source_19 rfl rM_Jx4a65c_get_915e3 (by decide) rfl rfl (by decide) (by decide) (Nat.le_of_ble_eq_true rfl) rfl (hp.2 _ (by decide)) (c_get3 hp hk40.2 (by omega) hk ?_)
      show s_w _ _ _ 22 _ _ _ _
      refine t_chk dX16_source_22 rfl rfl (by decide) (by assumption) ?_
      refine t_getI (F := f_mk_isDrawn) dX16_source_25 rfl rfl (by decide) rfl ⟨rfl, fun _ => rfl⟩ (by assumption) ?_
      refine w_ifeq (t := 35) dX16_source_28 (by decide) (fun c28 => ?_) (fun c28 => ?_)
      · refine w_iconst (v := 0) dX16_source_35 rfl ?_
        exact w_ireturn dX16_source_36 ⟨s_rcb (by first | exact Or.inl rfl | exact Or.inr rfl | exact bI_or _), s_eqi (by unfold q_src; rw [hc]; grind) k⟩
      · refine w_iconst (v := 1) dX16_source_31 rfl ?_
        refine w_goto (t := 36) dX16_source_32 (by decide) ?_
        exact w_ireturn dX16_source_36 ⟨s_rcb (by first | exact Or.inl rfl | exact Or.inr rfl | exact bI_or _), s_eqi (by unfold q_src; rw [hc]; grind) k⟩

theorem s_ixR {p : e_Sp} {I : e_I} {k : Nat} (hK : q_K p I k) (h : ¬ I f_mk_relay k = -1) : s_ix (I f_mk_relay k) (I f_mk_relay k).toNatClampNeg 16 := by
  rcases hK.2.2.2.2 with z | ⟨r, hr, e⟩
  · exact absurd z h
  · rw [e, nI_clamp (by omega)]; exact s_ix.nI hr (by decide)
set_option maxRecDepth 100000 in
set_option maxHeartbeats 4000000 in
theorem c_X16_counts {X : e_XT} {d : Nat} {p : e_Sp} {I : e_I} {J : e_Jt} {c : Nat × Nat} {w : e_Rw1} {Q : e_Rt → e_SS → Prop} (hp : s_ok p) {kk : Nat} (hK : q_K p I kk) (k : Q (.inl (some (.int (bI (q_ct I kk))))) (p, I, J, c, w)) : s_c X (d + 0) 226 [.ref (p.1 T_MODEL 0), .ref (p.1 T_MKNOB kk)] (p, I, J, c, w) Q := by
  have hv := hK.1
  refine m_X16_counts (Nat.le_of_ble_eq_true rfl) ?_
  show s_w _ _ _ 0 _ _ _ _
  refine w_op (pc' := 1) dX16_counts_0 rfl ?_
  refine t_getI (F := f_mk_isDrawn) dX16_counts_1 rfl rfl (by decide) rfl ⟨rfl, fun _ => rfl⟩ (by assumption) ?_
  refine w_ifne (t := 27) dX16_counts_4 (by decide) (fun c4 => ?_) (fun c4 => ?_)
  · refine w_iconst (v := 1) dX16_counts_27 rfl ?_
    refine w_goto (t := 32) dX16_counts_28 (by decide) ?_
    exact w_ireturn dX16_counts_32 ⟨s_rcb (by first | exact Or.inl rfl | exact Or.inr rfl | exact bI_or _), s_eqi (by unfold q_ct; grind) k⟩
  · refine w_op (pc' := 8) dX16_counts_7 rfl ?_
    refine t_getI (F := f_mk_relay) dX16_counts_8 rfl rfl (by decide) rfl ⟨rfl, fun _ => rfl⟩ (by assumption) ?_
    refine w_iconst (v := (-1)) dX16_counts_11 rfl ?_
    refine w_icmpeq (t := 31) dX16_counts_12 (by decide) (fun c12 => ?_) (fun c12 => ?_)
    · refine w_iconst (v := 0) dX16_counts_31 rfl ?_
      exact w_ireturn dX16_counts_32 ⟨s_rcb (by first | exact Or.inl rfl | exact Or.inr rfl | exact bI_or _), s_eqi (by unfold q_ct; grind) k⟩
    · refine w_op (pc' := 16) dX16_counts_15 rfl ?_
      refine t_getG0 (G := g_m_isRelay) dX16_counts_16 rfl rfl (by decide) rfl (fun _ => rfl) (hp.1 _ rfl) ?_
      refine w_op (pc' := 20) dX16_counts_19 rfl ?_
      refine t_getI (F := f_mk_relay) dX16_counts_20 rfl rfl (by decide) rfl ⟨rfl, fun _ => rfl⟩ (by assumption) ?_
      refine t_bald0 (F := f_m_isRelay) dX16_counts_23 rfl (by decide) rfl (hp.1 _ rfl) (s_ixR hK c12) (s_ixR hK c12).2.2 ?_
      refine w_ifeq (t := 31) dX16_counts_24 (by decide) (fun c24 => ?_) (fun c24 => ?_)
      · refine w_iconst (v := 0) dX16_counts_31 rfl ?_
        exact w_ireturn dX16_counts_32 ⟨s_rcb (by first | exact Or.inl rfl | exact Or.inr rfl | exact bI_or _), s_eqi (by unfold q_ct; grind) k⟩
      · refine w_iconst (v := 1) dX16_counts_27 rfl ?_
        refine w_goto (t := 32) dX16_counts_28 (by decide) ?_
        exact w_ireturn dX16_counts_32 ⟨s_rcb (by first | exact Or.inl rfl | exact Or.inr rfl | exact bI_or _), s_eqi (by unfold q_ct; grind) k⟩

set_option maxRecDepth 100000 in
set_option maxHeartbeats 4000000 in
theorem c_X16_sounds {X : e_XT} {d : Nat} {p : e_Sp} {I : e_I} {J : e_Jt} {c : Nat × Nat} {w : e_Rw1} {Q : e_Rt → e_SS → Prop} (hp : s_ok p) {kk : Nat} (hK : q_K p I kk) (k : Q (.inl (some (.int (bI (q_so I kk))))) (p, I, J, c, w)) : s_c X (d + 1) 228 [.ref (p.1 T_MODEL 0), .ref (p.1 T_MKNOB kk)] (p, I, J, c, w) Q := by
  have hv := hK.1
  refine m_X16_sounds (Nat.le_of_ble_eq_true rfl) ?_
  show s_w _ _ _ 0 _ _ _ _
  refine w_op (pc' := 1) dX16_sounds_0 rfl ?_
  refine w_op (pc' := 2) dX16_sounds_1 rfl ?_
  refine t_callV (t := T_MODEL) (As := [_]) dX16_sounds_2 rfl rM_X16_counts (by decide) rfl rfl (by decide) (by decide) (Nat.le_of_ble_eq_true rfl) rfl (hp.1 _ rfl) (c_X16_counts hp hK ?_)
  show s_w _ _ _ 5 _ _ _ _
  refine w_ifne (t := 33) dX16_sounds_5 (by decide) (fun c5 => ?_) (fun c5 => ?_)
  · refine w_iconst (v := 1) dX16_sounds_33 rfl ?_
    refine w_goto (t := 38) dX16_sounds_34 (by decide) ?_
    exact w_ireturn dX16_sounds_38 ⟨s_rcb (by first | exact Or.inl rfl | exact Or.inr rfl | exact bI_or _), s_eqi (by unfold q_so; grind) k⟩
  · refine w_op (pc' := 9) dX16_sounds_8 rfl ?_
    refine t_getI (F := f_m_isTutti) dX16_sounds_9 rfl rfl (by decide) rfl ⟨rfl, fun _ => rfl⟩ (hp.1 _ rfl) ?_
    refine w_ifne (t := 33) dX16_sounds_12 (by decide) (fun c12 => ?_) (fun c12 => ?_)
    · refine w_iconst (v := 1) dX16_sounds_33 rfl ?_
      refine w_goto (t := 38) dX16_sounds_34 (by decide) ?_
      exact w_ireturn dX16_sounds_38 ⟨s_rcb (by first | exact Or.inl rfl | exact Or.inr rfl | exact bI_or _), s_eqi (by unfold q_so; grind) k⟩
    · refine w_op (pc' := 16) dX16_sounds_15 rfl ?_
      refine t_getI (F := f_mk_stage) dX16_sounds_16 rfl rfl (by decide) rfl ⟨rfl, fun _ => rfl⟩ (by assumption) ?_
      refine w_ifle (t := 37) dX16_sounds_19 (by decide) (fun c19 => ?_) (fun c19 => ?_)
      · refine w_iconst (v := 0) dX16_sounds_37 rfl ?_
        exact w_ireturn dX16_sounds_38 ⟨s_rcb (by first | exact Or.inl rfl | exact Or.inr rfl | exact bI_or _), s_eqi (by unfold q_so; grind) k⟩
      · refine w_op (pc' := 23) dX16_sounds_22 rfl ?_
        refine t_getI (F := f_m_crescendo) dX16_sounds_23 rfl rfl (by decide) rfl ⟨rfl, fun _ => rfl⟩ (hp.1 _ rfl) ?_
        refine w_op (pc' := 27) dX16_sounds_26 rfl ?_
        refine t_getI (F := f_mk_stage) dX16_sounds_27 rfl rfl (by decide) rfl ⟨rfl, fun _ => rfl⟩ (by assumption) ?_
        refine w_icmplt (t := 37) dX16_sounds_30 (by decide) (fun c30 => ?_) (fun c30 => ?_)
        · refine w_iconst (v := 0) dX16_sounds_37 rfl ?_
          exact w_ireturn dX16_sounds_38 ⟨s_rcb (by first | exact Or.inl rfl | exact Or.inr rfl | exact bI_or _), s_eqi (by unfold q_so; grind) k⟩
        · refine w_iconst (v := 1) dX16_sounds_33 rfl ?_
          refine w_goto (t := 38) dX16_sounds_34 (by decide) ?_
          exact w_ireturn dX16_sounds_38 ⟨s_rcb (by first | exact Or.inl rfl | exact Or.inr rfl | exact bI_or _), s_eqi (by unfold q_so; grind) k⟩

