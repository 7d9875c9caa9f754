/-! 64: throws by class; what the calls need (printed by wip/whole/p64.py) -/
theorem w_thr0 {X : e_XT} {d : Nat} {K : e_KT} {pc : Nat} {ll : e_LL} {st : List Value} {S : e_SS} {Q : e_Rt → e_SS → Prop} {is sp : Nat} {tx : String} (htx : (is, tx, sp) ∈ e_TX) (ho : K.1 = 15) (hh : K.2.2.2.2 = []) (hst : (st.map fun v => v.category).sum ≤ 8)
    (d0 : decode K.2.2.1 pc = .ok (.new 130, 3)) (d3 : decode K.2.2.1 (pc + 3) = .ok (.dup, 1)) (dd : (decode K.2.2.1 (pc + 4) = .ok (.ldc is, 2) ∧ decode K.2.2.1 (pc + 6) = .ok (.invokespecial 134, 3) ∧ decode K.2.2.1 (pc + 9) = .ok (.athrow, 1)) ∨ (decode K.2.2.1 (pc + 4) = .ok (.ldc_w is, 3) ∧ decode K.2.2.1 (pc + 7) = .ok (.invokespecial 134, 3) ∧ decode K.2.2.1 (pc + 10) = .ok (.athrow, 1)))
    (k : Q (.inr 0) (s_add S 1 6)) : s_w X d K pc ll st S Q := w_throw (List.mem_of_getElem? (l := e_XP) (i := 0) rfl) rfl rfl rfl (by decide) htx ho hh hst d0 d3 dd k
theorem w_thr1 {X : e_XT} {d : Nat} {K : e_KT} {pc : Nat} {ll : e_LL} {st : List Value} {S : e_SS} {Q : e_Rt → e_SS → Prop} {is sp : Nat} {tx : String} (htx : (is, tx, sp) ∈ e_TX) (ho : K.1 = 15) (hh : K.2.2.2.2 = []) (hst : (st.map fun v => v.category).sum ≤ 8)
    (d0 : decode K.2.2.1 pc = .ok (.new 59, 3)) (d3 : decode K.2.2.1 (pc + 3) = .ok (.dup, 1)) (dd : (decode K.2.2.1 (pc + 4) = .ok (.ldc is, 2) ∧ decode K.2.2.1 (pc + 6) = .ok (.invokespecial 63, 3) ∧ decode K.2.2.1 (pc + 9) = .ok (.athrow, 1)) ∨ (decode K.2.2.1 (pc + 4) = .ok (.ldc_w is, 3) ∧ decode K.2.2.1 (pc + 7) = .ok (.invokespecial 63, 3) ∧ decode K.2.2.1 (pc + 10) = .ok (.athrow, 1)))
    (k : Q (.inr 1) (s_add S 1 6)) : s_w X d K pc ll st S Q := w_throw (List.mem_of_getElem? (l := e_XP) (i := 1) rfl) rfl rfl rfl (by decide) htx ho hh hst d0 d3 dd k
theorem w_thr2 {X : e_XT} {d : Nat} {K : e_KT} {pc : Nat} {ll : e_LL} {st : List Value} {S : e_SS} {Q : e_Rt → e_SS → Prop} {is sp : Nat} {tx : String} (htx : (is, tx, sp) ∈ e_TX) (ho : K.1 = 15) (hh : K.2.2.2.2 = []) (hst : (st.map fun v => v.category).sum ≤ 8)
    (d0 : decode K.2.2.1 pc = .ok (.new 355, 3)) (d3 : decode K.2.2.1 (pc + 3) = .ok (.dup, 1)) (dd : (decode K.2.2.1 (pc + 4) = .ok (.ldc is, 2) ∧ decode K.2.2.1 (pc + 6) = .ok (.invokespecial 359, 3) ∧ decode K.2.2.1 (pc + 9) = .ok (.athrow, 1)) ∨ (decode K.2.2.1 (pc + 4) = .ok (.ldc_w is, 3) ∧ decode K.2.2.1 (pc + 7) = .ok (.invokespecial 359, 3) ∧ decode K.2.2.1 (pc + 10) = .ok (.athrow, 1)))
    (k : Q (.inr 2) (s_add S 1 6)) : s_w X d K pc ll st S Q := w_throw (List.mem_of_getElem? (l := e_XP) (i := 2) rfl) rfl rfl rfl (by decide) htx ho hh hst d0 d3 dd k
theorem w_thr3 {X : e_XT} {d : Nat} {K : e_KT} {pc : Nat} {ll : e_LL} {st : List Value} {S : e_SS} {Q : e_Rt → e_SS → Prop} {is sp : Nat} {tx : String} (htx : (is, tx, sp) ∈ e_TX) (ho : K.1 = 15) (hh : K.2.2.2.2 = []) (hst : (st.map fun v => v.category).sum ≤ 8)
    (d0 : decode K.2.2.1 pc = .ok (.new 455, 3)) (d3 : decode K.2.2.1 (pc + 3) = .ok (.dup, 1)) (dd : (decode K.2.2.1 (pc + 4) = .ok (.ldc is, 2) ∧ decode K.2.2.1 (pc + 6) = .ok (.invokespecial 459, 3) ∧ decode K.2.2.1 (pc + 9) = .ok (.athrow, 1)) ∨ (decode K.2.2.1 (pc + 4) = .ok (.ldc_w is, 3) ∧ decode K.2.2.1 (pc + 7) = .ok (.invokespecial 459, 3) ∧ decode K.2.2.1 (pc + 10) = .ok (.athrow, 1)))
    (k : Q (.inr 3) (s_add S 1 6)) : s_w X d K pc ll st S Q := w_throw (List.mem_of_getElem? (l := e_XP) (i := 3) rfl) rfl rfl rfl (by decide) htx ho hh hst d0 d3 dd k
theorem w_thr5 {X : e_XT} {d : Nat} {K : e_KT} {pc : Nat} {ll : e_LL} {st : List Value} {S : e_SS} {Q : e_Rt → e_SS → Prop} {is sp : Nat} {tx : String} (htx : (is, tx, sp) ∈ e_TX) (ho : K.1 = 15) (hh : K.2.2.2.2 = []) (hst : (st.map fun v => v.category).sum ≤ 8)
    (d0 : decode K.2.2.1 pc = .ok (.new 471, 3)) (d3 : decode K.2.2.1 (pc + 3) = .ok (.dup, 1)) (dd : (decode K.2.2.1 (pc + 4) = .ok (.ldc is, 2) ∧ decode K.2.2.1 (pc + 6) = .ok (.invokespecial 475, 3) ∧ decode K.2.2.1 (pc + 9) = .ok (.athrow, 1)) ∨ (decode K.2.2.1 (pc + 4) = .ok (.ldc_w is, 3) ∧ decode K.2.2.1 (pc + 7) = .ok (.invokespecial 475, 3) ∧ decode K.2.2.1 (pc + 10) = .ok (.athrow, 1)))
    (k : Q (.inr 5) (s_add S 1 6)) : s_w X d K pc ll st S Q := w_throw (List.mem_of_getElem? (l := e_XP) (i := 4) rfl) rfl rfl rfl (by decide) htx ho hh hst d0 d3 dd k
set_option maxRecDepth 100000 in
set_option maxHeartbeats 4000000 in
theorem c_X11_needRange {X : e_XT} {d : Nat} {p : e_Sp} {I : e_I} {J : e_Jt} {c : Nat × Nat} {w : e_Rw1} {Q : e_Rt → e_SS → Prop} {x lo hi : Int32} (k : (lo ≤ x ∧ x ≤ hi) → Q (.inl none) (p, I, J, c, w)) (kx : ¬ (lo ≤ x ∧ x ≤ hi) → Q (.inr 0) (p, I, J, (c.1 + 1, c.2 + 6), w)) : s_c X (d + 0) 144 [.int x, .int lo, .int hi] (p, I, J, c, w) Q := by
  refine m_X11_needRange (Nat.le_of_ble_eq_true rfl) ?_
  show s_w _ _ _ 0 _ _ _ _
  refine w_op (pc' := 1) dX11_needRange_0 rfl ?_
  refine w_op (pc' := 2) dX11_needRange_1 rfl ?_
  refine w_icmplt (t := 10) dX11_needRange_2 (by decide) (fun c2 => ?_) (fun c2 => ?_)
  · exact w_thr0 (is := 494) (sp := 649) (tx := "a number is out of range") (by decide) rfl rfl (by simp) dX11_needRange_10 dX11_needRange_13 (Or.inr ⟨dX11_needRange_14, dX11_needRange_17, dX11_needRange_20⟩) ⟨rfl, kx (fun z => Int32.not_lt.mpr z.1 c2)⟩
  · refine w_op (pc' := 6) dX11_needRange_5 rfl ?_
    refine w_op (pc' := 7) dX11_needRange_6 rfl ?_
    refine w_icmple (t := 21) dX11_needRange_7 (by decide) (fun c7 => ?_) (fun c7 => ?_)
    · exact w_return dX11_needRange_21 ⟨rfl, k ⟨Int32.not_lt.mp c2, c7⟩⟩
    · exact w_thr0 (is := 494) (sp := 649) (tx := "a number is out of range") (by decide) rfl rfl (by simp) dX11_needRange_10 dX11_needRange_13 (Or.inr ⟨dX11_needRange_14, dX11_needRange_17, dX11_needRange_20⟩) ⟨rfl, kx (fun z => c7 z.2)⟩
set_option maxRecDepth 100000 in
set_option maxHeartbeats 4000000 in
theorem c_X11_needDivision {X : e_XT} {d : Nat} {p : e_Sp} {I : e_I} {J : e_Jt} {c : Nat × Nat} {w : e_Rw1} {Q : e_Rt → e_SS → Prop} {x : Int32} (k : s_isdv x = true → Q (.inl none) (p, I, J, c, w)) (kx : s_isdv x = false → Q (.inr 2) (p, I, J, (c.1 + 1, c.2 + 6), w)) : s_c X (d + 1) 146 [.int x] (p, I, J, c, w) Q := by
  refine m_X11_needDivision (Nat.le_of_ble_eq_true rfl) ?_
  show s_w _ _ _ 0 _ _ _ _
  refine w_op (pc' := 1) dX11_needDivision_0 rfl ?_
  refine t_callS (As := [_]) dX11_needDivision_1 rfl rM_X11_isDivision (by decide) rfl rfl (by decide) (Nat.le_of_ble_eq_true rfl) (c_X11_isDivision ?_)
  show s_w _ _ _ 4 _ _ _ _
  refine w_ifne (t := 18) dX11_needDivision_4 (by decide) (fun c4 => ?_) (fun c4 => ?_)
  · exact w_return dX11_needDivision_18 ⟨rfl, k (bI_n0.mp c4)⟩
  · exact w_thr2 (is := 487) (sp := 934) (tx := "no such division") (by decide) rfl rfl (by simp) dX11_needDivision_7 dX11_needDivision_10 (Or.inr ⟨dX11_needDivision_11, dX11_needDivision_14, dX11_needDivision_17⟩) ⟨rfl, kx (bI_0.mp c4)⟩
set_option maxRecDepth 100000 in
set_option maxHeartbeats 4000000 in
theorem c_X11_needKey {X : e_XT} {d : Nat} {p : e_Sp} {I : e_I} {J : e_Jt} {c : Nat × Nat} {w : e_Rw1} {Q : e_Rt → e_SS → Prop} {x y : Int32} (k : s_isk x y → Q (.inl none) (p, I, J, c, w)) (kx : ¬ s_isk x y → Q (.inr 2) (p, I, J, (c.1 + 1, c.2 + 6), w)) : s_c X (d + 1) 163 [.int x, .int y] (p, I, J, c, w) Q := by
  refine m_X11_needKey (Nat.le_of_ble_eq_true rfl) ?_
  show s_w _ _ _ 0 _ _ _ _
  refine w_op (pc' := 1) dX11_needKey_0 rfl ?_
  refine w_op (pc' := 2) dX11_needKey_1 rfl ?_
  refine t_callS (As := [_, _]) dX11_needKey_2 rfl rM_X3_indexOf (by decide) rfl rfl (by decide) (Nat.le_of_ble_eq_true rfl) (c_X3_indexOf ?_)
  show s_w _ _ _ 5 _ _ _ _
  refine w_ifge (t := 19) dX11_needKey_5 (by decide) (fun c5 => ?_) (fun c5 => ?_)
  · exact w_return dX11_needKey_19 ⟨rfl, k (Decidable.byContradiction fun z => Int32.not_lt.mpr c5 (s_idx_neg.mpr z))⟩
  · exact w_thr2 (is := 492) (sp := 1080) (tx := "no such division or key") (by decide) rfl rfl (by simp) dX11_needKey_8 dX11_needKey_11 (Or.inr ⟨dX11_needKey_12, dX11_needKey_15, dX11_needKey_18⟩) ⟨rfl, kx (s_idx_neg.mp (Int32.not_le.mp c5))⟩
set_option maxRecDepth 100000 in
set_option maxHeartbeats 4000000 in
theorem c_X11_needRelay {X : e_XT} {d : Nat} {p : e_Sp} {I : e_I} {J : e_Jt} {c : Nat × Nat} {w : e_Rw1} {Q : e_Rt → e_SS → Prop} {x : Int32} (k : (0 ≤ x ∧ x < 16) → Q (.inl none) (p, I, J, c, w)) (kx : ¬ (0 ≤ x ∧ x < 16) → Q (.inr 2) (p, I, J, (c.1 + 1, c.2 + 6), w)) : s_c X (d + 0) 198 [.int x] (p, I, J, c, w) Q := by
  refine m_X11_needRelay (Nat.le_of_ble_eq_true rfl) ?_
  show s_w _ _ _ 0 _ _ _ _
  refine w_op (pc' := 1) dX11_needRelay_0 rfl ?_
  refine w_iflt (t := 10) dX11_needRelay_1 (by decide) (fun c1 => ?_) (fun c1 => ?_)
  · exact w_thr2 (is := 496) (sp := 1335) (tx := "no such relay") (by decide) rfl rfl (by simp) dX11_needRelay_10 dX11_needRelay_13 (Or.inr ⟨dX11_needRelay_14, dX11_needRelay_17, dX11_needRelay_20⟩) ⟨rfl, kx (fun z => Int32.not_lt.mpr z.1 c1)⟩
  · refine w_op (pc' := 5) dX11_needRelay_4 rfl ?_
    refine w_bipush (v := 16) dX11_needRelay_5 rfl ?_
    refine w_icmplt (t := 21) dX11_needRelay_7 (by decide) (fun c7 => ?_) (fun c7 => ?_)
    · exact w_return dX11_needRelay_21 ⟨rfl, k ⟨Int32.not_lt.mp c1, c7⟩⟩
    · exact w_thr2 (is := 496) (sp := 1335) (tx := "no such relay") (by decide) rfl rfl (by simp) dX11_needRelay_10 dX11_needRelay_13 (Or.inr ⟨dX11_needRelay_14, dX11_needRelay_17, dX11_needRelay_20⟩) ⟨rfl, kx (fun z => c7 z.2)⟩
set_option maxRecDepth 100000 in
set_option maxHeartbeats 4000000 in
theorem c_X11_needReversible {X : e_XT} {d : Nat} {p : e_Sp} {I : e_I} {J : e_Jt} {c : Nat × Nat} {w : e_Rw1} {Q : e_Rt → e_SS → Prop} {x : Int32} (k : (0 ≤ x ∧ x < 4) → Q (.inl none) (p, I, J, c, w)) (kx : ¬ (0 ≤ x ∧ x < 4) → Q (.inr 2) (p, I, J, (c.1 + 1, c.2 + 6), w)) : s_c X (d + 0) 191 [.int x] (p, I, J, c, w) Q := by
  refine m_X11_needReversible (Nat.le_of_ble_eq_true rfl) ?_
  show s_w _ _ _ 0 _ _ _ _
  refine w_op (pc' := 1) dX11_needReversible_0 rfl ?_
  refine w_iflt (t := 9) dX11_needReversible_1 (by decide) (fun c1 => ?_) (fun c1 => ?_)
  · exact w_thr2 (is := 498) (sp := 1371) (tx := "no such reversible") (by decide) rfl rfl (by simp) dX11_needReversible_9 dX11_needReversible_12 (Or.inr ⟨dX11_needReversible_13, dX11_needReversible_16, dX11_needReversible_19⟩) ⟨rfl, kx (fun z => Int32.not_lt.mpr z.1 c1)⟩
  · refine w_op (pc' := 5) dX11_needReversible_4 rfl ?_
    refine w_iconst (v := 4) dX11_needReversible_5 rfl ?_
    refine w_icmplt (t := 20) dX11_needReversible_6 (by decide) (fun c6 => ?_) (fun c6 => ?_)
    · exact w_return dX11_needReversible_20 ⟨rfl, k ⟨Int32.not_lt.mp c1, c6⟩⟩
    · exact w_thr2 (is := 498) (sp := 1371) (tx := "no such reversible") (by decide) rfl rfl (by simp) dX11_needReversible_9 dX11_needReversible_12 (Or.inr ⟨dX11_needReversible_13, dX11_needReversible_16, dX11_needReversible_19⟩) ⟨rfl, kx (fun z => c6 z.2)⟩
set_option maxRecDepth 100000 in
set_option maxHeartbeats 4000000 in
theorem c_X11_needPiston {X : e_XT} {d : Nat} {p : e_Sp} {I : e_I} {J : e_Jt} {c : Nat × Nat} {w : e_Rw1} {Q : e_Rt → e_SS → Prop} {x y : Int32} (k : ¬ s_plo x y < 0 → Q (.inl (some (.int (s_plo x y)))) (p, I, J, c, w)) (kx : s_plo x y < 0 → Q (.inr 2) (p, I, J, (c.1 + 1, c.2 + 6), w)) : s_c X (d + 2) 188 [.int x, .int y] (p, I, J, c, w) Q := by
  refine m_X11_needPiston (Nat.le_of_ble_eq_true rfl) ?_
  show s_w _ _ _ 0 _ _ _ _
  refine w_op (pc' := 1) dX11_needPiston_0 rfl ?_
  refine w_op (pc' := 2) dX11_needPiston_1 rfl ?_
  refine t_callS (As := [_, _]) dX11_needPiston_2 rfl rM_X5_placeOf (by decide) rfl rfl (by decide) (Nat.le_of_ble_eq_true rfl) (c_X5_placeOf ?_)
  show s_w _ _ _ 5 _ _ _ _
  refine w_op (pc' := 6) (ll' := [_, _, _]) dX11_needPiston_5 rfl ?_
  refine w_op (pc' := 7) dX11_needPiston_6 rfl ?_
  refine w_ifge (t := 21) dX11_needPiston_7 (by decide) (fun c7 => ?_) (fun c7 => ?_)
  · refine w_op (pc' := 22) dX11_needPiston_21 rfl ?_
    exact w_ireturn dX11_needPiston_22 ⟨rfl, k (Int32.not_lt.mpr c7)⟩
  · exact w_thr2 (is := 500) (sp := 1145) (tx := "no such division or piston") (by decide) rfl rfl (by simp) dX11_needPiston_10 dX11_needPiston_13 (Or.inr ⟨dX11_needPiston_14, dX11_needPiston_17, dX11_needPiston_20⟩) ⟨rfl, kx (Int32.not_le.mp c7)⟩
set_option maxRecDepth 100000 in
set_option maxHeartbeats 4000000 in
theorem c_X11_needFrame {X : e_XT} {d : Nat} {p : e_Sp} {I : e_I} {J : e_Jt} {c : Nat × Nat} {w : e_Rw1} {Q : e_Rt → e_SS → Prop} (hp : s_ok p) (hM : s_Me I) {x : Int32} (k : (0 ≤ x ∧ x < s_frs I) → Q (.inl none) (p, I, J, c, w)) (kx : ¬ (0 ≤ x ∧ x < s_frs I) → Q (.inr 2) (p, I, J, (c.1 + 1, c.2 + 6), w)) : s_c X (d + 1) 195 [.ref (p.1 T_HALL 0), .int x] (p, I, J, c, w) Q := by
  refine m_X11_needFrame (Nat.le_of_ble_eq_true rfl) ?_
  show s_w _ _ _ 0 _ _ _ _
  refine w_op (pc' := 1) dX11_needFrame_0 rfl ?_
  refine w_iflt (t := 15) dX11_needFrame_1 (by decide) (fun c1 => ?_) (fun c1 => ?_)
  · exact w_thr2 (is := 502) (sp := 1277) (tx := "no such frame") (by decide) rfl rfl (by simp) dX11_needFrame_15 dX11_needFrame_18 (Or.inr ⟨dX11_needFrame_19, dX11_needFrame_22, dX11_needFrame_25⟩) ⟨rfl, kx (fun z => Int32.not_lt.mpr z.1 c1)⟩
  · refine w_op (pc' := 5) dX11_needFrame_4 rfl ?_
    refine w_op (pc' := 6) dX11_needFrame_5 rfl ?_
    refine t_getG0 (G := g_h_MEM) dX11_needFrame_6 rfl rfl (by decide) rfl (fun _ => rfl) (hp.1 _ rfl) ?_
    refine t_callV (t := T_MEM) (As := []) dX11_needFrame_9 rfl rM_X5_frames (by decide) rfl rfl (by decide) (by decide) (Nat.le_of_ble_eq_true rfl) rfl (hp.1 _ rfl) (c_X5_frames hp hM ?_)
    show s_w _ _ _ 12 _ _ _ _
    refine w_icmplt (t := 26) dX11_needFrame_12 (by decide) (fun c12 => ?_) (fun c12 => ?_)
    · exact w_return dX11_needFrame_26 ⟨rfl, k ⟨Int32.not_lt.mp c1, c12⟩⟩
    · exact w_thr2 (is := 502) (sp := 1277) (tx := "no such frame") (by decide) rfl rfl (by simp) dX11_needFrame_15 dX11_needFrame_18 (Or.inr ⟨dX11_needFrame_19, dX11_needFrame_22, dX11_needFrame_25⟩) ⟨rfl, kx (fun z => c12 z.2)⟩
set_option maxRecDepth 100000 in
set_option maxHeartbeats 4000000 in
theorem c_X11_needOwnLevel {X : e_XT} {d : Nat} {p : e_Sp} {I : e_I} {J : e_Jt} {c : Nat × Nat} {w : e_Rw1} {Q : e_Rt → e_SS → Prop} (hp : s_ok p) (hM : s_Me I) (k : s_clo I = false → Q (.inl none) (p, I, J, c, w)) (kx : s_clo I = true → Q (.inr 3) (p, I, J, (c.1 + 1, c.2 + 6), w)) : s_c X (d + 2) 184 [.ref (p.1 T_HALL 0)] (p, I, J, c, w) Q := by
  refine m_X11_needOwnLevel (Nat.le_of_ble_eq_true rfl) ?_
  show s_w _ _ _ 0 _ _ _ _
  refine w_op (pc' := 1) dX11_needOwnLevel_0 rfl ?_
  refine t_getG0 (G := g_h_MEM) dX11_needOwnLevel_1 rfl rfl (by decide) rfl (fun _ => rfl) (hp.1 _ rfl) ?_
  refine t_callV (t := T_MEM) (As := []) dX11_needOwnLevel_4 rfl rM_X5_isClaimedByAnother (by decide) rfl rfl (by decide) (by decide) (Nat.le_of_ble_eq_true rfl) rfl (hp.1 _ rfl) (c_X5_isClaimedByAnother hp hM ?_)
  show s_w _ _ _ 7 _ _ _ _
  refine w_ifeq (t := 21) dX11_needOwnLevel_7 (by decide) (fun c7 => ?_) (fun c7 => ?_)
  · exact w_return dX11_needOwnLevel_21 ⟨rfl, k (bI_0.mp c7)⟩
  · exact w_thr3 (is := 507) (sp := 1158) (tx := "another guest has claimed the level") (by decide) rfl rfl (by simp) dX11_needOwnLevel_10 dX11_needOwnLevel_13 (Or.inr ⟨dX11_needOwnLevel_14, dX11_needOwnLevel_17, dX11_needOwnLevel_20⟩) ⟨rfl, kx (bI_n0.mp c7)⟩
set_option maxRecDepth 100000 in
set_option maxHeartbeats 4000000 in
theorem c_X11_needRoomForKnob {X : e_XT} {d : Nat} {p : e_Sp} {I : e_I} {J : e_Jt} {c : Nat × Nat} {w : e_Rw1} {Q : e_Rt → e_SS → Prop} {nk nr : Nat} (hC : s_C p I nk nr) (k : nk < 40 → Q (.inl none) (p, I, J, c, w)) (kx : ¬ nk < 40 → Q (.inr 1) (p, I, J, (c.1 + 1, c.2 + 6), w)) : s_c X (d + 1) 147 [.ref (p.1 T_HALL 0)] (p, I, J, c, w) Q := by
  have hp := hC.1
  have hn40 := hC.2.1.1
  have hk40 := hC.2.1.2
  refine m_X11_needRoomForKnob (Nat.le_of_ble_eq_true rfl) ?_
  show s_w _ _ _ 0 _ _ _ _
  refine w_op (pc' := 1) dX11_needRoomForKnob_0 rfl ?_
  refine t_getG0 (G := g_h_CONS) dX11_needRoomForKnob_1 rfl rfl (by decide) rfl (fun _ => rfl) (hp.1 _ rfl) ?_
  refine t_getG0 (G := g_n_knobs) dX11_needRoomForKnob_4 rfl rfl (by decide) rfl (fun _ => rfl) (hp.1 _ rfl) ?_
  refine t_callV (t := T_LIST) (As := []) dX11_needRoomForKnob_7 rfl rM_Jx4a65c_size_8abf5 (by decide) rfl rfl (by decide) (by decide) (Nat.le_of_ble_eq_true rfl) rfl (hp.2 _ (by decide)) (c_size (hp.2 _ (by decide)) ?_)
  show s_w _ _ _ 10 _ _ _ _
  rw [hk40]
  refine w_bipush (v := 40) dX11_needRoomForKnob_10 rfl ?_
  refine w_icmplt (t := 26) dX11_needRoomForKnob_12 (by decide) (fun c12 => ?_) (fun c12 => ?_)
  · exact w_return dX11_needRoomForKnob_26 ⟨rfl, k ((nI_ltI (b := 40) (by omega) (by omega)).mp c12)⟩
  · exact w_thr1 (is := 512) (sp := 942) (tx := "there are 40 knobs") (by decide) rfl rfl (by simp) dX11_needRoomForKnob_15 dX11_needRoomForKnob_18 (Or.inr ⟨dX11_needRoomForKnob_19, dX11_needRoomForKnob_22, dX11_needRoomForKnob_25⟩) ⟨rfl, kx (fun z => c12 ((nI_ltI (b := 40) (by omega) (by omega)).mpr z))⟩
set_option maxRecDepth 100000 in
set_option maxHeartbeats 4000000 in
theorem c_X11_needKnob {X : e_XT} {d : Nat} {p : e_Sp} {I : e_I} {J : e_Jt} {c : Nat × Nat} {w : e_Rw1} {Q : e_Rt → e_SS → Prop} {nk nr : Nat} (hC : s_C p I nk nr) {x : Int32} (k : ∀ j, j < nk → x = nI j → p.2.1 T_KNOB j = true → Q (.inl (some (.ref (p.1 T_KNOB j)))) (p, I, J, c, w)) (kx : (x < 0 ∨ nI nk ≤ x) → Q (.inr 2) (p, I, J, (c.1 + 1, c.2 + 6), w)) : s_c X (d + 4) 150 [.ref (p.1 T_HALL 0), .int x] (p, I, J, c, w) Q := by
  have hp := hC.1
  refine m_X11_needKnob (Nat.le_of_ble_eq_true rfl) ?_
  show s_w _ _ _ 0 _ _ _ _
  refine w_op (pc' := 1) dX11_needKnob_0 rfl ?_
  refine t_getG0 (G := g_h_CONS) dX11_needKnob_1 rfl rfl (by decide) rfl (fun _ => rfl) (hp.1 _ rfl) ?_
  refine w_op (pc' := 5) dX11_needKnob_4 rfl ?_
  refine t_callV (t := T_CONS) (As := [_]) dX11_needKnob_5 rfl rM_X0_knobAt (by decide) rfl rfl (by decide) (by decide) (Nat.le_of_ble_eq_true rfl) rfl (hp.1 _ rfl) (c_X0_knobAt hC (fun j hj hx => ?_) (fun hx => ?_))
  · show s_w _ _ _ 8 _ _ _ _
    refine w_op (pc' := 9) (ll' := [_, _, _]) dX11_needKnob_8 rfl ?_
    refine w_op (pc' := 10) dX11_needKnob_9 rfl ?_
    refine w_ifnonnull_t (t := 24) dX11_needKnob_10 (by decide) ?_
    refine w_op (pc' := 25) dX11_needKnob_24 rfl ?_
    exact w_areturn dX11_needKnob_25 ⟨rfl, k j hj hx (hC.kn hj)⟩
  · show s_w _ _ _ 8 _ _ _ _
    refine w_op (pc' := 9) (ll' := [_, _, _]) dX11_needKnob_8 rfl ?_
    refine w_op (pc' := 10) dX11_needKnob_9 rfl ?_
    refine w_ifnonnull_f dX11_needKnob_10 ?_
    exact w_thr2 (is := 514) (sp := 995) (tx := "no such knob") (by decide) rfl rfl (by simp) dX11_needKnob_13 dX11_needKnob_16 (Or.inr ⟨dX11_needKnob_17, dX11_needKnob_20, dX11_needKnob_23⟩) ⟨rfl, kx hx⟩
set_option maxRecDepth 100000 in
set_option maxHeartbeats 4000000 in
theorem c_X11_needStop {X : e_XT} {d : Nat} {p : e_Sp} {I : e_I} {J : e_Jt} {c : Nat × Nat} {w : e_Rw1} {Q : e_Rt → e_SS → Prop} {j : Nat} (hj : p.2.1 T_KNOB j = true) (k : p.2.1 T_STOP j = true → Q (.inl (some (.ref (p.1 T_STOP j)))) (p, I, J, c, w)) (kx : ¬ p.2.1 T_STOP j = true → Q (.inr 3) (p, I, J, (c.1 + 1, c.2 + 6), w)) : s_c X (d + 0) 152 [.ref (p.1 T_KNOB j)] (p, I, J, c, w) Q := by
  refine m_X11_needStop (Nat.le_of_ble_eq_true rfl) ?_
  show s_w _ _ _ 0 _ _ _ _
  refine w_op (pc' := 1) dX11_needStop_0 rfl ?_
  refine t_getStop dX11_needStop_1 rfl (by assumption) ?_
  by_cases z1 : p.2.1 T_STOP (j) = true
  · rw [if_pos z1]
    refine w_ifnonnull_t (t := 18) dX11_needStop_4 (by decide) ?_
    refine w_op (pc' := 19) dX11_needStop_18 rfl ?_
    refine t_getStop dX11_needStop_19 rfl (by assumption) ?_
    rw [if_pos z1]
    exact w_areturn dX11_needStop_22 ⟨rfl, k z1⟩
  · rw [if_neg z1]
    refine w_ifnonnull_f dX11_needStop_4 ?_
    exact w_thr3 (is := 520) (sp := 1017) (tx := "the knob is no stop's") (by decide) rfl rfl (by simp) dX11_needStop_7 dX11_needStop_10 (Or.inr ⟨dX11_needStop_11, dX11_needStop_14, dX11_needStop_17⟩) ⟨rfl, kx z1⟩
set_option maxRecDepth 100000 in
set_option maxHeartbeats 4000000 in
theorem c_X11_needRank {X : e_XT} {d : Nat} {p : e_Sp} {I : e_I} {J : e_Jt} {c : Nat × Nat} {w : e_Rw1} {Q : e_Rt → e_SS → Prop} {nk nr : Nat} (hD : s_D p I nk nr) {x : Int32} (k : ∀ r, r < nr → x = nI r → s_Rk p I r → Q (.inl (some (.ref (p.1 T_RANK r)))) (p, I, J, c, w)) (kx : (x < 0 ∨ nI nr ≤ x) → Q (.inr 2) (p, I, J, (c.1 + 1, c.2 + 6), w)) : s_c X (d + 4) 151 [.ref (p.1 T_HALL 0), .int x] (p, I, J, c, w) Q := by
  have hC := hD.1
  have hp := hC.1
  refine m_X11_needRank (Nat.le_of_ble_eq_true rfl) ?_
  show s_w _ _ _ 0 _ _ _ _
  refine w_op (pc' := 1) dX11_needRank_0 rfl ?_
  refine t_getG0 (G := g_h_WORKS) dX11_needRank_1 rfl rfl (by decide) rfl (fun _ => rfl) (hp.1 _ rfl) ?_
  refine w_op (pc' := 5) dX11_needRank_4 rfl ?_
  refine t_callV (t := T_WORKS) (As := [_]) dX11_needRank_5 rfl rM_X10_rankAt (by decide) rfl rfl (by decide) (by decide) (Nat.le_of_ble_eq_true rfl) rfl (hp.1 _ rfl) (c_X10_rankAt hD (fun j hj hx => ?_) (fun hx => ?_))
  · show s_w _ _ _ 8 _ _ _ _
    refine w_op (pc' := 9) (ll' := [_, _, _]) dX11_needRank_8 rfl ?_
    refine w_op (pc' := 10) dX11_needRank_9 rfl ?_
    refine w_ifnonnull_t (t := 24) dX11_needRank_10 (by decide) ?_
    refine w_op (pc' := 25) dX11_needRank_24 rfl ?_
    exact w_areturn dX11_needRank_25 ⟨rfl, k j hj hx (hD.2.1 j hj)⟩
  · show s_w _ _ _ 8 _ _ _ _
    refine w_op (pc' := 9) (ll' := [_, _, _]) dX11_needRank_8 rfl ?_
    refine w_op (pc' := 10) dX11_needRank_9 rfl ?_
    refine w_ifnonnull_f dX11_needRank_10 ?_
    exact w_thr2 (is := 525) (sp := 1004) (tx := "no such rank") (by decide) rfl rfl (by simp) dX11_needRank_13 dX11_needRank_16 (Or.inr ⟨dX11_needRank_17, dX11_needRank_20, dX11_needRank_23⟩) ⟨rfl, kx hx⟩
set_option maxRecDepth 100000 in
set_option maxHeartbeats 4000000 in
theorem c_X11_needPipe {X : e_XT} {d : Nat} {p : e_Sp} {I : e_I} {J : e_Jt} {c : Nat × Nat} {w : e_Rw1} {Q : e_Rt → e_SS → Prop} {nk nr : Nat} (hD : s_D p I nk nr) {x y : Int32} (k : ∀ j, s_pat p I nr x y = some j → p.2.1 T_PIPE j = true → Q (.inl (some (.ref (p.1 T_PIPE j)))) (p, I, J, c, w)) (kx : s_pat p I nr x y = none → Q (.inr 2) (p, I, J, (c.1 + 1, c.2 + 6), w)) : s_c X (d + 4) 167 [.ref (p.1 T_HALL 0), .int x, .int y] (p, I, J, c, w) Q := by
  have hC := hD.1
  have hp := hC.1
  refine m_X11_needPipe (Nat.le_of_ble_eq_true rfl) ?_
  show s_w _ _ _ 0 _ _ _ _
  refine w_op (pc' := 1) dX11_needPipe_0 rfl ?_
  refine t_getG0 (G := g_h_WORKS) dX11_needPipe_1 rfl rfl (by decide) rfl (fun _ => rfl) (hp.1 _ rfl) ?_
  refine w_op (pc' := 5) dX11_needPipe_4 rfl ?_
  refine w_op (pc' := 6) dX11_needPipe_5 rfl ?_
  refine t_callV (t := T_WORKS) (As := [_, _]) dX11_needPipe_6 rfl rM_X10_pipeAt (by decide) rfl rfl (by decide) (by decide) (Nat.le_of_ble_eq_true rfl) rfl (hp.1 _ rfl) (c_X10_pipeAt hD (fun j hj hv => ?_) (fun hx => ?_))
  · show s_w _ _ _ 9 _ _ _ _
    refine w_op (pc' := 10) (ll' := [_, _, _, _]) dX11_needPipe_9 rfl ?_
    refine w_op (pc' := 11) dX11_needPipe_10 rfl ?_
    refine w_ifnonnull_t (t := 25) dX11_needPipe_11 (by decide) ?_
    refine w_op (pc' := 26) dX11_needPipe_25 rfl ?_
    exact w_areturn dX11_needPipe_26 ⟨rfl, k j hj hv⟩
  · show s_w _ _ _ 9 _ _ _ _
    refine w_op (pc' := 10) (ll' := [_, _, _, _]) dX11_needPipe_9 rfl ?_
    refine w_op (pc' := 11) dX11_needPipe_10 rfl ?_
    refine w_ifnonnull_f dX11_needPipe_11 ?_
    exact w_thr2 (is := 530) (sp := 1532) (tx := "no such rank or note of it") (by decide) rfl rfl (by simp) dX11_needPipe_14 dX11_needPipe_17 (Or.inr ⟨dX11_needPipe_18, dX11_needPipe_21, dX11_needPipe_24⟩) ⟨rfl, kx hx⟩
