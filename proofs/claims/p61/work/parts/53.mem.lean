/-! 53: what guests keep (printed by wip/whole/p53.py) -/
theorem s_eql {v v' : Int64} {S : e_SS} {Q : e_Rt → e_SS → Prop} (h : v' = v) (k : Q (.inl (some (.long v'))) S) : Q (.inl (some (.long v))) S := h ▸ k
theorem s_ixm {v k M : Nat} {y x : Int32} (hy : y = nI v) (hv : v < M) (h0 : 0 ≤ x) (h1 : x < nI k) (hk : k < 1000) (hM : M < 1000) : s_ix (y * nI k + x) (y * nI k + x).toNatClampNeg (M * k) := by
  obtain ⟨j, hj, rfl⟩ := s_nat h0 h1 (by omega)
  subst hy
  have e : nI v * nI k + nI j = nI (v * k + j) := by rw [show nI v * nI k = nI (v * k) from (Int32.ofNat_mul v k).symm, nI_add]
  have h3 : v * k + j < M * k := by
    have : (v + 1) * k ≤ M * k := Nat.mul_le_mul_right k hv
    rw [Nat.succ_mul] at this
    omega
  have h4 : M * k ≤ 1000 * 1000 := Nat.mul_le_mul (by omega) (by omega)
  rw [e]
  have h5 := s_ix.nI h3 (by omega)
  exact ⟨h5.1, rfl, by rw [h5.2.1]; exact h5.2.2⟩
theorem t_callSh {X : e_XT} {d : Nat} {K : e_KT} {pc ix : Nat} {ll : e_LL} {rest As : List Value} {p : e_Sp} {I : e_I} {J : e_Jt} {c : Nat × Nat} {w : e_Rw1} {Q : e_Rt → e_SS → Prop} {mi pl ho : Nat} {row : e_MT} (hd : decode K.2.2.1 pc = .ok (.invokestatic ix, 3)) (hcl : e_cl2 K.1 ix = some (ix, mi, pl, ho)) (hho : ho ≠ 0) (h21 : row.1.2 ≠ 21) (hrow : e_M[mi]? = some row) (hmi : mi < 1000) (hst : row.2.1.2 = true) (hn : As.length = row.2.1.1) (hni : row.1.1.name ≠ "<init>") (hcat : (rest.map fun v => v.category).sum ≤ 8)
    (hc : s_c X d mi As (p, I, J, c, w) (fun r S' => (∃ v, r = .inl v) ∧ s_aft X (d + 1) K pc ll rest Q r S')) : s_w X (d + 1) K pc ll (As.reverse ++ rest) (p, I, J, c, w) Q := w_callS hd hcl hrow hmi (Or.inr ⟨hho, h21, fun _ _ h => h.1⟩) hst hn hni hcat hc (fun _ _ h => h.2)
/-- the memory stands -/
def s_Me (I : e_I) : Prop := (∃ g, g < 4 ∧ I f_guest 0 = nI g) ∧ (∃ v, v < 4 ∧ I f_level 0 = nI v) ∧ ∀ g, g < 4 → ∃ m, m ≤ 20 ∧ I f_a_frameCounts g = nI m
theorem s_Me.lx {I : e_I} (h : s_Me I) : s_ix (I f_level 0) (I f_level 0).toNatClampNeg 4 := by
  obtain ⟨v, hv, e⟩ := h.2.1
  rw [e]
  have h5 := s_ix.nI hv (by decide)
  exact ⟨h5.1, rfl, by rw [h5.2.1]; exact h5.2.2⟩
theorem s_Me.gx {I : e_I} (h : s_Me I) : s_ix (I f_guest 0) (I f_guest 0).toNatClampNeg 4 := by
  obtain ⟨v, hv, e⟩ := h.1
  rw [e]
  have h5 := s_ix.nI hv (by decide)
  exact ⟨h5.1, rfl, by rw [h5.2.1]; exact h5.2.2⟩
def s_isdv (x : Int32) : Bool := decide (0 ≤ x) && decide (x < 3)
def s_plo (x y : Int32) : Int32 := if x = -1 then (if 0 ≤ y ∧ y < 8 then y else -1) else if s_isdv x = true ∧ 0 ≤ y ∧ y < 4 then 8 + x * 4 + y else -1
def s_mix (I : e_I) (x : Int32) : Int32 := if x < 0 ∨ 20 ≤ x then -1 else I f_level 0 * 20 + x
theorem s_mix_ix {I : e_I} {x : Int32} (h : s_Me I) (hx : ¬ s_mix I x < 0) : s_ix (s_mix I x) (s_mix I x).toNatClampNeg 80 := by
  unfold s_mix at hx ⊢
  split at hx
  · exact absurd (show (-1 : Int32) < 0 by decide) hx
  · rename_i h9
    rw [if_neg h9]
    obtain ⟨v, hv, e⟩ := h.2.1
    exact s_ixm (k := 20) (M := 4) e hv (Int32.not_lt.mp (fun z => h9 (Or.inl z))) (Int32.not_le.mp (fun z => h9 (Or.inr z))) (by decide) (by decide)
def s_isk5 (I : e_I) (x : Int32) : Bool := !decide (s_mix I x < 0) && !decide (I f_a_isSet (s_mix I x).toNatClampNeg = 0)
def s_kby (F : Nat) (I : e_I) (J : e_Jt) (x : Int32) : Int64 := if s_mix I x < 0 then 0 else J F (s_mix I x).toNatClampNeg
def s_clm (I : e_I) : Bool := decide (0 ≤ I f_a_owners (I f_level 0).toNatClampNeg)
def s_clo (I : e_I) : Bool := s_clm I && !decide (I f_a_owners (I f_level 0).toNatClampNeg = I f_guest 0)
def s_kpI (I : e_I) (x : Int32) : e_I := if s_mix I x < 0 then I else s_up I f_a_isSet (s_mix I x).toNatClampNeg 1
def s_kpJ (I : e_I) (J : e_Jt) (x : Int32) (y z : Int64) : e_Jt := if s_mix I x < 0 then J else s_up (s_up J j_a_kept (s_mix I x).toNatClampNeg y) j_a_drawn (s_mix I x).toNatClampNeg z
def s_rvk (I : e_I) (x : Int32) : Int32 := if 0 ≤ x ∧ x < 4 then I f_a_reversibles (I f_level 0 * 4 + x).toNatClampNeg else -1
def s_krv (I : e_I) (x y : Int32) : e_I := if 0 ≤ x ∧ x < 4 then s_up I f_a_reversibles (I f_level 0 * 4 + x).toNatClampNeg y else I
theorem s_rv_ix {I : e_I} {x : Int32} (h : s_Me I) (h0 : 0 ≤ x) (h1 : x < 4) : s_ix (I f_level 0 * 4 + x) (I f_level 0 * 4 + x).toNatClampNeg 16 := by
  obtain ⟨v, hv, e⟩ := h.2.1
  exact s_ixm (k := 4) (M := 4) e hv h0 h1 (by decide) (by decide)
def s_frs (I : e_I) : Int32 := I f_a_frameCounts (I f_guest 0).toNatClampNeg
theorem s_frs_le {I : e_I} (h : s_Me I) : ∃ m, m ≤ 20 ∧ s_frs I = nI m := by
  obtain ⟨v, hv, e⟩ := h.1
  obtain ⟨m, hm, e2⟩ := h.2.2 v hv
  exact ⟨m, hm, by unfold s_frs; rw [e, nI_clamp (by omega)]; exact e2⟩
def s_kbf (F : Nat) (I : e_I) (J : e_Jt) (x : Int32) : Int64 := if 0 ≤ x ∧ x < s_frs I then J F (I f_guest 0 * 20 + x).toNatClampNeg else 0
theorem s_frm_ix {I : e_I} {x : Int32} (h : s_Me I) (h0 : 0 ≤ x) (h1 : x < nI 20) : s_ix (I f_guest 0 * 20 + x) (I f_guest 0 * 20 + x).toNatClampNeg 80 := by
  obtain ⟨v, hv, e⟩ := h.1
  exact s_ixm (k := 20) (M := 4) e hv h0 h1 (by decide) (by decide)
theorem s_lt20 {I : e_I} {x : Int32} (h : s_Me I) (h1 : x < s_frs I) : x < nI 20 := by
  obtain ⟨m, hm, e⟩ := s_frs_le h
  rw [e] at h1
  exact Int32.lt_of_lt_of_le h1 ((nI_leI (by omega) (by omega)).mpr hm)
set_option maxRecDepth 100000 in
set_option maxHeartbeats 4000000 in
theorem c_X11_isDivision {X : e_XT} {d : Nat} {p : e_Sp} {I : e_I} {J : e_Jt} {c : Nat × Nat} {w : e_Rw1} {Q : e_Rt → e_SS → Prop} {x : Int32} (k : Q (.inl (some (.int (bI (s_isdv x))))) (p, I, J, c, w)) : s_c X (d + 0) 139 [.int x] (p, I, J, c, w) Q := by
  refine m_X11_isDivision (Nat.le_of_ble_eq_true rfl) ?_
  show s_w _ _ _ 0 _ _ _ _
  refine w_op (pc' := 1) dX11_isDivision_0 rfl ?_
  refine w_iflt (t := 13) dX11_isDivision_1 (by decide) (fun c1 => ?_) (fun c1 => ?_)
  · refine w_iconst (v := 0) dX11_isDivision_13 rfl ?_
    exact w_ireturn dX11_isDivision_14 ⟨s_rcb (by first | exact Or.inl rfl | exact Or.inr rfl | exact bI_or _), s_eqi (by unfold s_isdv; grind) k⟩
  · refine w_op (pc' := 5) dX11_isDivision_4 rfl ?_
    refine w_iconst (v := 3) dX11_isDivision_5 rfl ?_
    refine w_icmpge (t := 13) dX11_isDivision_6 (by decide) (fun c6 => ?_) (fun c6 => ?_)
    · refine w_iconst (v := 0) dX11_isDivision_13 rfl ?_
      exact w_ireturn dX11_isDivision_14 ⟨s_rcb (by first | exact Or.inl rfl | exact Or.inr rfl | exact bI_or _), s_eqi (by unfold s_isdv; grind) k⟩
    · refine w_iconst (v := 1) dX11_isDivision_9 rfl ?_
      refine w_goto (t := 14) dX11_isDivision_10 (by decide) ?_
      exact w_ireturn dX11_isDivision_14 ⟨s_rcb (by first | exact Or.inl rfl | exact Or.inr rfl | exact bI_or _), s_eqi (by unfold s_isdv; grind) k⟩
set_option maxRecDepth 100000 in
set_option maxHeartbeats 4000000 in
theorem c_X5_placeOf {X : e_XT} {d : Nat} {p : e_Sp} {I : e_I} {J : e_Jt} {c : Nat × Nat} {w : e_Rw1} {Q : e_Rt → e_SS → Prop} {x y : Int32} (k : Q (.inl (some (.int (s_plo x y)))) (p, I, J, c, w)) : s_c X (d + 1) 60 [.int x, .int y] (p, I, J, c, w) Q := by
  refine m_X5_placeOf (Nat.le_of_ble_eq_true rfl) ?_
  show s_w _ _ _ 0 _ _ _ _
  refine w_op (pc' := 1) dX5_placeOf_0 rfl ?_
  refine w_iconst (v := (-1)) dX5_placeOf_1 rfl ?_
  refine w_icmpne (t := 21) dX5_placeOf_2 (by decide) (fun c2 => ?_) (fun c2 => ?_)
  · refine w_op (pc' := 22) dX5_placeOf_21 rfl ?_
    refine t_callSh (As := [_]) dX5_placeOf_22 rfl (by decide) (by decide) rM_X11_isDivision (by decide) rfl rfl (by decide) (Nat.le_of_ble_eq_true rfl) (c_X11_isDivision ?_)
    refine ⟨⟨_, rfl⟩, ?_⟩
    show s_w _ _ _ 25 _ _ _ _
    refine w_ifeq (t := 41) dX5_placeOf_25 (by decide) (fun c25 => ?_) (fun c25 => ?_)
    · refine w_iconst (v := 0) dX5_placeOf_41 rfl ?_
      refine w_op (pc' := 43) (ll' := [_, _, _]) dX5_placeOf_42 rfl ?_
      refine w_op (pc' := 44) dX5_placeOf_43 rfl ?_
      refine w_ifeq (t := 58) dX5_placeOf_44 (by decide) (fun c44 => ?_) (fun c44 => ?_)
      · refine w_iconst (v := (-1)) dX5_placeOf_58 rfl ?_
        exact w_ireturn dX5_placeOf_59 ⟨rfl, s_eqi (by unfold s_plo; grind) k⟩
      · exact absurd c44 (by decide)
    · refine w_op (pc' := 29) dX5_placeOf_28 rfl ?_
      refine w_iflt (t := 41) dX5_placeOf_29 (by decide) (fun c29 => ?_) (fun c29 => ?_)
      · refine w_iconst (v := 0) dX5_placeOf_41 rfl ?_
        refine w_op (pc' := 43) (ll' := [_, _, _]) dX5_placeOf_42 rfl ?_
        refine w_op (pc' := 44) dX5_placeOf_43 rfl ?_
        refine w_ifeq (t := 58) dX5_placeOf_44 (by decide) (fun c44 => ?_) (fun c44 => ?_)
        · refine w_iconst (v := (-1)) dX5_placeOf_58 rfl ?_
          exact w_ireturn dX5_placeOf_59 ⟨rfl, s_eqi (by unfold s_plo; grind) k⟩
        · exact absurd c44 (by decide)
      · refine w_op (pc' := 33) dX5_placeOf_32 rfl ?_
        refine w_iconst (v := 4) dX5_placeOf_33 rfl ?_
        refine w_icmpge (t := 41) dX5_placeOf_34 (by decide) (fun c34 => ?_) (fun c34 => ?_)
        · refine w_iconst (v := 0) dX5_placeOf_41 rfl ?_
          refine w_op (pc' := 43) (ll' := [_, _, _]) dX5_placeOf_42 rfl ?_
          refine w_op (pc' := 44) dX5_placeOf_43 rfl ?_
          refine w_ifeq (t := 58) dX5_placeOf_44 (by decide) (fun c44 => ?_) (fun c44 => ?_)
          · refine w_iconst (v := (-1)) dX5_placeOf_58 rfl ?_
            exact w_ireturn dX5_placeOf_59 ⟨rfl, s_eqi (by unfold s_plo; grind) k⟩
          · exact absurd c44 (by decide)
        · refine w_iconst (v := 1) dX5_placeOf_37 rfl ?_
          refine w_goto (t := 42) dX5_placeOf_38 (by decide) ?_
          refine w_op (pc' := 43) (ll' := [_, _, _]) dX5_placeOf_42 rfl ?_
          refine w_op (pc' := 44) dX5_placeOf_43 rfl ?_
          refine w_ifeq (t := 58) dX5_placeOf_44 (by decide) (fun c44 => ?_) (fun c44 => ?_)
          · exact absurd c44 (by decide)
          · refine w_bipush (v := 8) dX5_placeOf_47 rfl ?_
            refine w_op (pc' := 50) dX5_placeOf_49 rfl ?_
            refine w_iconst (v := 4) dX5_placeOf_50 rfl ?_
            refine w_op (pc' := 52) dX5_placeOf_51 rfl ?_
            refine w_op (pc' := 53) dX5_placeOf_52 rfl ?_
            refine w_op (pc' := 54) dX5_placeOf_53 rfl ?_
            refine w_op (pc' := 55) dX5_placeOf_54 rfl ?_
            refine w_goto (t := 59) dX5_placeOf_55 (by decide) ?_
            exact w_ireturn dX5_placeOf_59 ⟨rfl, s_eqi (by unfold s_plo; grind) k⟩
  · refine w_op (pc' := 6) dX5_placeOf_5 rfl ?_
    refine w_iflt (t := 19) dX5_placeOf_6 (by decide) (fun c6 => ?_) (fun c6 => ?_)
    · refine w_iconst (v := (-1)) dX5_placeOf_19 rfl ?_
      exact w_ireturn dX5_placeOf_20 ⟨rfl, s_eqi (by unfold s_plo; grind) k⟩
    · refine w_op (pc' := 10) dX5_placeOf_9 rfl ?_
      refine w_bipush (v := 8) dX5_placeOf_10 rfl ?_
      refine w_icmpge (t := 19) dX5_placeOf_12 (by decide) (fun c12 => ?_) (fun c12 => ?_)
      · refine w_iconst (v := (-1)) dX5_placeOf_19 rfl ?_
        exact w_ireturn dX5_placeOf_20 ⟨rfl, s_eqi (by unfold s_plo; grind) k⟩
      · refine w_op (pc' := 16) dX5_placeOf_15 rfl ?_
        refine w_goto (t := 20) dX5_placeOf_16 (by decide) ?_
        exact w_ireturn dX5_placeOf_20 ⟨rfl, s_eqi (by unfold s_plo; grind) k⟩
set_option maxRecDepth 100000 in
set_option maxHeartbeats 4000000 in
theorem c_X5_indexOf {X : e_XT} {d : Nat} {p : e_Sp} {I : e_I} {J : e_Jt} {c : Nat × Nat} {w : e_Rw1} {Q : e_Rt → e_SS → Prop} (hp : s_ok p) {x : Int32} (k : Q (.inl (some (.int (s_mix I x)))) (p, I, J, c, w)) : s_c X (d + 0) 62 [.ref (p.1 T_MEM 0), .int x] (p, I, J, c, w) Q := by
  refine m_X5_indexOf (Nat.le_of_ble_eq_true rfl) ?_
  show s_w _ _ _ 0 _ _ _ _
  refine w_op (pc' := 1) dX5_indexOf_0 rfl ?_
  refine w_iflt (t := 10) dX5_indexOf_1 (by decide) (fun c1 => ?_) (fun c1 => ?_)
  · refine w_iconst (v := (-1)) dX5_indexOf_10 rfl ?_
    refine w_goto (t := 23) dX5_indexOf_11 (by decide) ?_
    exact w_ireturn dX5_indexOf_23 ⟨rfl, s_eqi (by unfold s_mix; grind) k⟩
  · refine w_op (pc' := 5) dX5_indexOf_4 rfl ?_
    refine w_bipush (v := 20) dX5_indexOf_5 rfl ?_
    refine w_icmplt (t := 14) dX5_indexOf_7 (by decide) (fun c7 => ?_) (fun c7 => ?_)
    · refine w_op (pc' := 15) dX5_indexOf_14 rfl ?_
      refine t_getI (F := f_level) dX5_indexOf_15 rfl rfl (by decide) rfl ⟨rfl, fun _ => rfl⟩ (hp.1 _ rfl) ?_
      refine w_bipush (v := 20) dX5_indexOf_18 rfl ?_
      refine w_op (pc' := 21) dX5_indexOf_20 rfl ?_
      refine w_op (pc' := 22) dX5_indexOf_21 rfl ?_
      refine w_op (pc' := 23) dX5_indexOf_22 rfl ?_
      exact w_ireturn dX5_indexOf_23 ⟨rfl, s_eqi (by unfold s_mix; grind) k⟩
    · refine w_iconst (v := (-1)) dX5_indexOf_10 rfl ?_
      refine w_goto (t := 23) dX5_indexOf_11 (by decide) ?_
      exact w_ireturn dX5_indexOf_23 ⟨rfl, s_eqi (by unfold s_mix; grind) k⟩
set_option maxRecDepth 100000 in
set_option maxHeartbeats 4000000 in
theorem c_X5_isKept {X : e_XT} {d : Nat} {p : e_Sp} {I : e_I} {J : e_Jt} {c : Nat × Nat} {w : e_Rw1} {Q : e_Rt → e_SS → Prop} (hp : s_ok p) (hM : s_Me I) {x : Int32} (k : Q (.inl (some (.int (bI (s_isk5 I x))))) (p, I, J, c, w)) : s_c X (d + 1) 61 [.ref (p.1 T_MEM 0), .int x] (p, I, J, c, w) Q := by
  refine m_X5_isKept (Nat.le_of_ble_eq_true rfl) ?_
  show s_w _ _ _ 0 _ _ _ _
  refine w_op (pc' := 1) dX5_isKept_0 rfl ?_
  refine w_op (pc' := 2) dX5_isKept_1 rfl ?_
  refine t_callV (t := T_MEM) (As := [_]) dX5_isKept_2 rfl rM_X5_indexOf (by decide) rfl rfl (by decide) (by decide) (Nat.le_of_ble_eq_true rfl) rfl (hp.1 _ rfl) (c_X5_indexOf hp ?_)
  show s_w _ _ _ 5 _ _ _ _
  refine w_op (pc' := 6) (ll' := [_, _, _]) dX5_isKept_5 rfl ?_
  refine w_op (pc' := 7) dX5_isKept_6 rfl ?_
  refine w_iflt (t := 23) dX5_isKept_7 (by decide) (fun c7 => ?_) (fun c7 => ?_)
  · refine w_iconst (v := 0) dX5_isKept_23 rfl ?_
    exact w_ireturn dX5_isKept_24 ⟨s_rcb (by first | exact Or.inl rfl | exact Or.inr rfl | exact bI_or _), s_eqi (by unfold s_isk5; grind) k⟩
  · refine w_op (pc' := 11) dX5_isKept_10 rfl ?_
    refine t_getG0 (G := g_e_isSet) dX5_isKept_11 rfl rfl (by decide) rfl (fun _ => rfl) (hp.1 _ rfl) ?_
    refine w_op (pc' := 15) dX5_isKept_14 rfl ?_
    refine t_bald0 (F := f_a_isSet) dX5_isKept_15 rfl (by decide) rfl (hp.1 _ rfl) (s_mix_ix hM c7) (s_mix_ix hM c7).2.2 ?_
    refine w_ifeq (t := 23) dX5_isKept_16 (by decide) (fun c16 => ?_) (fun c16 => ?_)
    · refine w_iconst (v := 0) dX5_isKept_23 rfl ?_
      exact w_ireturn dX5_isKept_24 ⟨s_rcb (by first | exact Or.inl rfl | exact Or.inr rfl | exact bI_or _), s_eqi (by unfold s_isk5; grind) k⟩
    · refine w_iconst (v := 1) dX5_isKept_19 rfl ?_
      refine w_goto (t := 24) dX5_isKept_20 (by decide) ?_
      exact w_ireturn dX5_isKept_24 ⟨s_rcb (by first | exact Or.inl rfl | exact Or.inr rfl | exact bI_or _), s_eqi (by unfold s_isk5; grind) k⟩
set_option maxRecDepth 100000 in
set_option maxHeartbeats 4000000 in
theorem c_X5_keptBy {X : e_XT} {d : Nat} {p : e_Sp} {I : e_I} {J : e_Jt} {c : Nat × Nat} {w : e_Rw1} {Q : e_Rt → e_SS → Prop} (hp : s_ok p) (hM : s_Me I) {x : Int32} (k : Q (.inl (some (.long (s_kby j_a_kept I J x)))) (p, I, J, c, w)) : s_c X (d + 1) 63 [.ref (p.1 T_MEM 0), .int x] (p, I, J, c, w) Q := by
  refine m_X5_keptBy (Nat.le_of_ble_eq_true rfl) ?_
  show s_w _ _ _ 0 _ _ _ _
  refine w_op (pc' := 1) dX5_keptBy_0 rfl ?_
  refine w_op (pc' := 2) dX5_keptBy_1 rfl ?_
  refine t_callV (t := T_MEM) (As := [_]) dX5_keptBy_2 rfl rM_X5_indexOf (by decide) rfl rfl (by decide) (by decide) (Nat.le_of_ble_eq_true rfl) rfl (hp.1 _ rfl) (c_X5_indexOf hp ?_)
  show s_w _ _ _ 5 _ _ _ _
  refine w_op (pc' := 6) (ll' := [_, _, _]) dX5_keptBy_5 rfl ?_
  refine w_op (pc' := 7) dX5_keptBy_6 rfl ?_
  refine w_ifge (t := 14) dX5_keptBy_7 (by decide) (fun c7 => ?_) (fun c7 => ?_)
  · have hnn := Int32.not_lt.mpr c7
    refine w_op (pc' := 15) dX5_keptBy_14 rfl ?_
    refine t_getG0 (G := g_e_kept) dX5_keptBy_15 rfl rfl (by decide) rfl (fun _ => rfl) (hp.1 _ rfl) ?_
    refine w_op (pc' := 19) dX5_keptBy_18 rfl ?_
    refine t_lald0 (F := j_a_kept) dX5_keptBy_19 rfl (by decide) rfl (hp.1 _ rfl) (s_mix_ix hM hnn) (s_mix_ix hM hnn).2.2 ?_
    exact w_lreturn dX5_keptBy_20 ⟨rfl, s_eql (by unfold s_kby; exact if_neg hnn) k⟩
  · refine w_op (pc' := 11) dX5_keptBy_10 rfl ?_
    refine w_goto (t := 20) dX5_keptBy_11 (by decide) ?_
    exact w_lreturn dX5_keptBy_20 ⟨rfl, s_eql (by unfold s_kby; exact if_pos (Int32.not_le.mp c7)) k⟩
set_option maxRecDepth 100000 in
set_option maxHeartbeats 4000000 in
theorem c_X5_drawnBy {X : e_XT} {d : Nat} {p : e_Sp} {I : e_I} {J : e_Jt} {c : Nat × Nat} {w : e_Rw1} {Q : e_Rt → e_SS → Prop} (hp : s_ok p) (hM : s_Me I) {x : Int32} (k : Q (.inl (some (.long (s_kby j_a_drawn I J x)))) (p, I, J, c, w)) : s_c X (d + 1) 64 [.ref (p.1 T_MEM 0), .int x] (p, I, J, c, w) Q := by
  refine m_X5_drawnBy (Nat.le_of_ble_eq_true rfl) ?_
  show s_w _ _ _ 0 _ _ _ _
  refine w_op (pc' := 1) dX5_drawnBy_0 rfl ?_
  refine w_op (pc' := 2) dX5_drawnBy_1 rfl ?_
  refine t_callV (t := T_MEM) (As := [_]) dX5_drawnBy_2 rfl rM_X5_indexOf (by decide) rfl rfl (by decide) (by decide) (Nat.le_of_ble_eq_true rfl) rfl (hp.1 _ rfl) (c_X5_indexOf hp ?_)
  show s_w _ _ _ 5 _ _ _ _
  refine w_op (pc' := 6) (ll' := [_, _, _]) dX5_drawnBy_5 rfl ?_
  refine w_op (pc' := 7) dX5_drawnBy_6 rfl ?_
  refine w_ifge (t := 14) dX5_drawnBy_7 (by decide) (fun c7 => ?_) (fun c7 => ?_)
  · have hnn := Int32.not_lt.mpr c7
    refine w_op (pc' := 15) dX5_drawnBy_14 rfl ?_
    refine t_getG0 (G := g_e_drawn) dX5_drawnBy_15 rfl rfl (by decide) rfl (fun _ => rfl) (hp.1 _ rfl) ?_
    refine w_op (pc' := 19) dX5_drawnBy_18 rfl ?_
    refine t_lald0 (F := j_a_drawn) dX5_drawnBy_19 rfl (by decide) rfl (hp.1 _ rfl) (s_mix_ix hM hnn) (s_mix_ix hM hnn).2.2 ?_
    exact w_lreturn dX5_drawnBy_20 ⟨rfl, s_eql (by unfold s_kby; exact if_neg hnn) k⟩
  · refine w_op (pc' := 11) dX5_drawnBy_10 rfl ?_
    refine w_goto (t := 20) dX5_drawnBy_11 (by decide) ?_
    exact w_lreturn dX5_drawnBy_20 ⟨rfl, s_eql (by unfold s_kby; exact if_pos (Int32.not_le.mp c7)) k⟩
set_option maxRecDepth 100000 in
set_option maxHeartbeats 4000000 in
theorem c_X5_isClaimed {X : e_XT} {d : Nat} {p : e_Sp} {I : e_I} {J : e_Jt} {c : Nat × Nat} {w : e_Rw1} {Q : e_Rt → e_SS → Prop} (hp : s_ok p) (hM : s_Me I) (k : Q (.inl (some (.int (bI (s_clm I))))) (p, I, J, c, w)) : s_c X (d + 0) 67 [.ref (p.1 T_MEM 0)] (p, I, J, c, w) Q := by
  refine m_X5_isClaimed (Nat.le_of_ble_eq_true rfl) ?_
  show s_w _ _ _ 0 _ _ _ _
  refine w_op (pc' := 1) dX5_isClaimed_0 rfl ?_
  refine t_getG0 (G := g_e_owners) dX5_isClaimed_1 rfl rfl (by decide) rfl (fun _ => rfl) (hp.1 _ rfl) ?_
  refine w_op (pc' := 5) dX5_isClaimed_4 rfl ?_
  refine t_getI (F := f_level) dX5_isClaimed_5 rfl rfl (by decide) rfl ⟨rfl, fun _ => rfl⟩ (hp.1 _ rfl) ?_
  refine t_iald0 (F := f_a_owners) dX5_isClaimed_8 rfl (by decide) rfl (hp.1 _ rfl) hM.lx hM.lx.2.2 ?_
  refine w_iflt (t := 16) dX5_isClaimed_9 (by decide) (fun c9 => ?_) (fun c9 => ?_)
  · refine w_iconst (v := 0) dX5_isClaimed_16 rfl ?_
    exact w_ireturn dX5_isClaimed_17 ⟨s_rcb (by first | exact Or.inl rfl | exact Or.inr rfl | exact bI_or _), s_eqi (by unfold s_clm; grind) k⟩
  · refine w_iconst (v := 1) dX5_isClaimed_12 rfl ?_
    refine w_goto (t := 17) dX5_isClaimed_13 (by decide) ?_
    exact w_ireturn dX5_isClaimed_17 ⟨s_rcb (by first | exact Or.inl rfl | exact Or.inr rfl | exact bI_or _), s_eqi (by unfold s_clm; grind) k⟩
set_option maxRecDepth 100000 in
set_option maxHeartbeats 4000000 in
theorem c_X5_isClaimedByAnother {X : e_XT} {d : Nat} {p : e_Sp} {I : e_I} {J : e_Jt} {c : Nat × Nat} {w : e_Rw1} {Q : e_Rt → e_SS → Prop} (hp : s_ok p) (hM : s_Me I) (k : Q (.inl (some (.int (bI (s_clo I))))) (p, I, J, c, w)) : s_c X (d + 1) 66 [.ref (p.1 T_MEM 0)] (p, I, J, c, w) Q := by
  refine m_X5_isClaimedByAnother (Nat.le_of_ble_eq_true rfl) ?_
  show s_w _ _ _ 0 _ _ _ _
  refine w_op (pc' := 1) dX5_isClaimedByAnother_0 rfl ?_
  refine t_callV (t := T_MEM) (As := []) dX5_isClaimedByAnother_1 rfl rM_X5_isClaimed (by decide) rfl rfl (by decide) (by decide) (Nat.le_of_ble_eq_true rfl) rfl (hp.1 _ rfl) (c_X5_isClaimed hp hM ?_)
  show s_w _ _ _ 4 _ _ _ _
  refine w_ifeq (t := 27) dX5_isClaimedByAnother_4 (by decide) (fun c4 => ?_) (fun c4 => ?_)
  · refine w_iconst (v := 0) dX5_isClaimedByAnother_27 rfl ?_
    exact w_ireturn dX5_isClaimedByAnother_28 ⟨s_rcb (by first | exact Or.inl rfl | exact Or.inr rfl | exact bI_or _), s_eqi (by unfold s_clo; grind) k⟩
  · refine w_op (pc' := 8) dX5_isClaimedByAnother_7 rfl ?_
    refine t_getG0 (G := g_e_owners) dX5_isClaimedByAnother_8 rfl rfl (by decide) rfl (fun _ => rfl) (hp.1 _ rfl) ?_
    refine w_op (pc' := 12) dX5_isClaimedByAnother_11 rfl ?_
    refine t_getI (F := f_level) dX5_isClaimedByAnother_12 rfl rfl (by decide) rfl ⟨rfl, fun _ => rfl⟩ (hp.1 _ rfl) ?_
    refine t_iald0 (F := f_a_owners) dX5_isClaimedByAnother_15 rfl (by decide) rfl (hp.1 _ rfl) hM.lx hM.lx.2.2 ?_
    refine w_op (pc' := 17) dX5_isClaimedByAnother_16 rfl ?_
    refine t_getI (F := f_guest) dX5_isClaimedByAnother_17 rfl rfl (by decide) rfl ⟨rfl, fun _ => rfl⟩ (hp.1 _ rfl) ?_
    refine w_icmpeq (t := 27) dX5_isClaimedByAnother_20 (by decide) (fun c20 => ?_) (fun c20 => ?_)
    · refine w_iconst (v := 0) dX5_isClaimedByAnother_27 rfl ?_
      exact w_ireturn dX5_isClaimedByAnother_28 ⟨s_rcb (by first | exact Or.inl rfl | exact Or.inr rfl | exact bI_or _), s_eqi (by unfold s_clo; grind) k⟩
    · refine w_iconst (v := 1) dX5_isClaimedByAnother_23 rfl ?_
      refine w_goto (t := 28) dX5_isClaimedByAnother_24 (by decide) ?_
      exact w_ireturn dX5_isClaimedByAnother_28 ⟨s_rcb (by first | exact Or.inl rfl | exact Or.inr rfl | exact bI_or _), s_eqi (by unfold s_clo; grind) k⟩
set_option maxRecDepth 100000 in
set_option maxHeartbeats 4000000 in
theorem c_X5_keep {X : e_XT} {d : Nat} {p : e_Sp} {I : e_I} {J : e_Jt} {c : Nat × Nat} {w : e_Rw1} {Q : e_Rt → e_SS → Prop} (hp : s_ok p) (hM : s_Me I) {x : Int32} {y z : Int64} (k : Q (.inl none) (p, s_kpI I x, s_kpJ I J x y z, c, w)) : s_c X (d + 1) 70 [.ref (p.1 T_MEM 0), .int x, .long y, .long z] (p, I, J, c, w) Q := by
  refine m_X5_keep (Nat.le_of_ble_eq_true rfl) ?_
  show s_w _ _ _ 0 _ _ _ _
  refine w_op (pc' := 1) dX5_keep_0 rfl ?_
  refine w_op (pc' := 2) dX5_keep_1 rfl ?_
  refine t_callV (t := T_MEM) (As := [_]) dX5_keep_2 rfl rM_X5_indexOf (by decide) rfl rfl (by decide) (by decide) (Nat.le_of_ble_eq_true rfl) rfl (hp.1 _ rfl) (c_X5_indexOf hp ?_)
  show s_w _ _ _ 5 _ _ _ _
  refine w_op (pc' := 7) (ll' := [_, _, _, _, _, _, _]) dX5_keep_5 rfl ?_
  refine w_op (pc' := 9) dX5_keep_7 rfl ?_
  refine w_iflt (t := 37) dX5_keep_9 (by decide) (fun c9 => ?_) (fun c9 => ?_)
  · exact w_return dX5_keep_37 ⟨rfl, (by unfold s_kpI s_kpJ at k; rw [if_pos c9, if_pos c9] at k; exact k)⟩
  · refine w_op (pc' := 13) dX5_keep_12 rfl ?_
    refine t_getG0 (G := g_e_isSet) dX5_keep_13 rfl rfl (by decide) rfl (fun _ => rfl) (hp.1 _ rfl) ?_
    refine w_op (pc' := 18) dX5_keep_16 rfl ?_
    refine w_iconst (v := 1) dX5_keep_18 rfl ?_
    refine t_bast0 (F := f_a_isSet) dX5_keep_19 rfl (by decide) (by decide) rfl (hp.1 _ rfl) (s_mix_ix hM c9) (s_mix_ix hM c9).2.2 (by first | exact Or.inl rfl | exact Or.inr rfl | assumption) ?_
    refine w_op (pc' := 21) dX5_keep_20 rfl ?_
    refine t_getG0 (G := g_e_kept) dX5_keep_21 rfl rfl (by decide) rfl (fun _ => rfl) (hp.1 _ rfl) ?_
    refine w_op (pc' := 26) dX5_keep_24 rfl ?_
    refine w_op (pc' := 27) dX5_keep_26 rfl ?_
    refine t_last0 (F := j_a_kept) dX5_keep_27 rfl (by decide) rfl (hp.1 _ rfl) (s_mix_ix hM c9) (s_mix_ix hM c9).2.2 ?_
    refine w_op (pc' := 29) dX5_keep_28 rfl ?_
    refine t_getG0 (G := g_e_drawn) dX5_keep_29 rfl rfl (by decide) rfl (fun _ => rfl) (hp.1 _ rfl) ?_
    refine w_op (pc' := 34) dX5_keep_32 rfl ?_
    refine w_op (pc' := 36) dX5_keep_34 rfl ?_
    refine t_last0 (F := j_a_drawn) dX5_keep_36 rfl (by decide) rfl (hp.1 _ rfl) (s_mix_ix hM c9) (s_mix_ix hM c9).2.2 ?_
    exact w_return dX5_keep_37 ⟨rfl, (by unfold s_kpI s_kpJ at k; rw [if_neg c9, if_neg c9] at k; exact k)⟩
set_option maxRecDepth 100000 in
set_option maxHeartbeats 4000000 in
theorem c_X5_reversibleKnob {X : e_XT} {d : Nat} {p : e_Sp} {I : e_I} {J : e_Jt} {c : Nat × Nat} {w : e_Rw1} {Q : e_Rt → e_SS → Prop} (hp : s_ok p) (hM : s_Me I) {x : Int32} (k : Q (.inl (some (.int (s_rvk I x)))) (p, I, J, c, w)) : s_c X (d + 0) 71 [.ref (p.1 T_MEM 0), .int x] (p, I, J, c, w) Q := by
  have hlv := hM.2.1
  refine m_X5_reversibleKnob (Nat.le_of_ble_eq_true rfl) ?_
  show s_w _ _ _ 0 _ _ _ _
  refine w_op (pc' := 1) dX5_reversibleKnob_0 rfl ?_
  refine w_iflt (t := 13) dX5_reversibleKnob_1 (by decide) (fun c1 => ?_) (fun c1 => ?_)
  · refine w_iconst (v := 0) dX5_reversibleKnob_13 rfl ?_
    refine w_op (pc' := 15) (ll' := [_, _, _]) dX5_reversibleKnob_14 rfl ?_
    refine w_op (pc' := 16) dX5_reversibleKnob_15 rfl ?_
    refine w_ifeq (t := 35) dX5_reversibleKnob_16 (by decide) (fun c16 => ?_) (fun c16 => ?_)
    · refine w_iconst (v := (-1)) dX5_reversibleKnob_35 rfl ?_
      exact w_ireturn dX5_reversibleKnob_36 ⟨rfl, s_eqi (by unfold s_rvk; grind) k⟩
    · exact absurd c16 (by decide)
  · refine w_op (pc' := 5) dX5_reversibleKnob_4 rfl ?_
    refine w_iconst (v := 4) dX5_reversibleKnob_5 rfl ?_
    refine w_icmpge (t := 13) dX5_reversibleKnob_6 (by decide) (fun c6 => ?_) (fun c6 => ?_)
    · refine w_iconst (v := 0) dX5_reversibleKnob_13 rfl ?_
      refine w_op (pc' := 15) (ll' := [_, _, _]) dX5_reversibleKnob_14 rfl ?_
      refine w_op (pc' := 16) dX5_reversibleKnob_15 rfl ?_
      refine w_ifeq (t := 35) dX5_reversibleKnob_16 (by decide) (fun c16 => ?_) (fun c16 => ?_)
      · refine w_iconst (v := (-1)) dX5_reversibleKnob_35 rfl ?_
        exact w_ireturn dX5_reversibleKnob_36 ⟨rfl, s_eqi (by unfold s_rvk; grind) k⟩
      · exact absurd c16 (by decide)
    · refine w_iconst (v := 1) dX5_reversibleKnob_9 rfl ?_
      refine w_goto (t := 14) dX5_reversibleKnob_10 (by decide) ?_
      refine w_op (pc' := 15) (ll' := [_, _, _]) dX5_reversibleKnob_14 rfl ?_
      refine w_op (pc' := 16) dX5_reversibleKnob_15 rfl ?_
      refine w_ifeq (t := 35) dX5_reversibleKnob_16 (by decide) (fun c16 => ?_) (fun c16 => ?_)
      · exact absurd c16 (by decide)
      · refine w_op (pc' := 20) dX5_reversibleKnob_19 rfl ?_
        refine t_getG0 (G := g_e_reversibles) dX5_reversibleKnob_20 rfl rfl (by decide) rfl (fun _ => rfl) (hp.1 _ rfl) ?_
        refine w_op (pc' := 24) dX5_reversibleKnob_23 rfl ?_
        refine t_getI (F := f_level) dX5_reversibleKnob_24 rfl rfl (by decide) rfl ⟨rfl, fun _ => rfl⟩ (hp.1 _ rfl) ?_
        refine w_iconst (v := 4) dX5_reversibleKnob_27 rfl ?_
        refine w_op (pc' := 29) dX5_reversibleKnob_28 rfl ?_
        refine w_op (pc' := 30) dX5_reversibleKnob_29 rfl ?_
        refine w_op (pc' := 31) dX5_reversibleKnob_30 rfl ?_
        refine t_iald0 (F := f_a_reversibles) dX5_reversibleKnob_31 rfl (by decide) rfl (hp.1 _ rfl) (s_rv_ix hM (Int32.not_lt.mp c1) (Int32.not_le.mp c6)) (s_rv_ix hM (Int32.not_lt.mp c1) (Int32.not_le.mp c6)).2.2 ?_
        refine w_goto (t := 36) dX5_reversibleKnob_32 (by decide) ?_
        exact w_ireturn dX5_reversibleKnob_36 ⟨rfl, s_eqi (by unfold s_rvk; grind) k⟩
set_option maxRecDepth 100000 in
set_option maxHeartbeats 4000000 in
theorem c_X5_keepReversible {X : e_XT} {d : Nat} {p : e_Sp} {I : e_I} {J : e_Jt} {c : Nat × Nat} {w : e_Rw1} {Q : e_Rt → e_SS → Prop} (hp : s_ok p) (hM : s_Me I) {x y : Int32} (k : Q (.inl none) (p, s_krv I x y, J, c, w)) : s_c X (d + 0) 72 [.ref (p.1 T_MEM 0), .int x, .int y] (p, I, J, c, w) Q := by
  have hlv := hM.2.1
  refine m_X5_keepReversible (Nat.le_of_ble_eq_true rfl) ?_
  show s_w _ _ _ 0 _ _ _ _
  refine w_op (pc' := 1) dX5_keepReversible_0 rfl ?_
  refine w_iflt (t := 23) dX5_keepReversible_1 (by decide) (fun c1 => ?_) (fun c1 => ?_)
  · exact w_return dX5_keepReversible_23 ⟨rfl, (by unfold s_krv at k; rw [if_neg (fun z => Int32.not_lt.mpr z.1 c1)] at k; exact k)⟩
  · refine w_op (pc' := 5) dX5_keepReversible_4 rfl ?_
    refine w_iconst (v := 4) dX5_keepReversible_5 rfl ?_
    refine w_icmpge (t := 23) dX5_keepReversible_6 (by decide) (fun c6 => ?_) (fun c6 => ?_)
    · exact w_return dX5_keepReversible_23 ⟨rfl, (by unfold s_krv at k; rw [if_neg (fun z => Int32.not_lt.mpr c6 z.2)] at k; exact k)⟩
    · refine w_op (pc' := 10) dX5_keepReversible_9 rfl ?_
      refine t_getG0 (G := g_e_reversibles) dX5_keepReversible_10 rfl rfl (by decide) rfl (fun _ => rfl) (hp.1 _ rfl) ?_
      refine w_op (pc' := 14) dX5_keepReversible_13 rfl ?_
      refine t_getI (F := f_level) dX5_keepReversible_14 rfl rfl (by decide) rfl ⟨rfl, fun _ => rfl⟩ (hp.1 _ rfl) ?_
      refine w_iconst (v := 4) dX5_keepReversible_17 rfl ?_
      refine w_op (pc' := 19) dX5_keepReversible_18 rfl ?_
      refine w_op (pc' := 20) dX5_keepReversible_19 rfl ?_
      refine w_op (pc' := 21) dX5_keepReversible_20 rfl ?_
      refine w_op (pc' := 22) dX5_keepReversible_21 rfl ?_
      refine t_iast0 (F := f_a_reversibles) dX5_keepReversible_22 rfl (by decide) (by decide) rfl (hp.1 _ rfl) (s_rv_ix hM (Int32.not_lt.mp c1) (Int32.not_le.mp c6)) (s_rv_ix hM (Int32.not_lt.mp c1) (Int32.not_le.mp c6)).2.2 ?_
      exact w_return dX5_keepReversible_23 ⟨rfl, (by unfold s_krv at k; rw [if_pos ⟨Int32.not_lt.mp c1, Int32.not_le.mp c6⟩] at k; exact k)⟩
set_option maxRecDepth 100000 in
set_option maxHeartbeats 4000000 in
theorem c_X5_frames {X : e_XT} {d : Nat} {p : e_Sp} {I : e_I} {J : e_Jt} {c : Nat × Nat} {w : e_Rw1} {Q : e_Rt → e_SS → Prop} (hp : s_ok p) (hM : s_Me I) (k : Q (.inl (some (.int (s_frs I)))) (p, I, J, c, w)) : s_c X (d + 0) 73 [.ref (p.1 T_MEM 0)] (p, I, J, c, w) Q := by
  refine m_X5_frames (Nat.le_of_ble_eq_true rfl) ?_
  show s_w _ _ _ 0 _ _ _ _
  refine w_op (pc' := 1) dX5_frames_0 rfl ?_
  refine t_getG0 (G := g_e_frameCounts) dX5_frames_1 rfl rfl (by decide) rfl (fun _ => rfl) (hp.1 _ rfl) ?_
  refine w_op (pc' := 5) dX5_frames_4 rfl ?_
  refine t_getI (F := f_guest) dX5_frames_5 rfl rfl (by decide) rfl ⟨rfl, fun _ => rfl⟩ (hp.1 _ rfl) ?_
  refine t_iald0 (F := f_a_frameCounts) dX5_frames_8 rfl (by decide) rfl (hp.1 _ rfl) hM.gx hM.gx.2.2 ?_
  exact w_ireturn dX5_frames_9 ⟨rfl, k⟩
set_option maxRecDepth 100000 in
set_option maxHeartbeats 4000000 in
theorem c_X5_keptByFrame {X : e_XT} {d : Nat} {p : e_Sp} {I : e_I} {J : e_Jt} {c : Nat × Nat} {w : e_Rw1} {Q : e_Rt → e_SS → Prop} (hp : s_ok p) (hM : s_Me I) {x : Int32} (k : Q (.inl (some (.long (s_kbf j_a_frameKept I J x)))) (p, I, J, c, w)) : s_c X (d + 1) 76 [.ref (p.1 T_MEM 0), .int x] (p, I, J, c, w) Q := by
  refine m_X5_keptByFrame (Nat.le_of_ble_eq_true rfl) ?_
  show s_w _ _ _ 0 _ _ _ _
  refine w_op (pc' := 1) dX5_keptByFrame_0 rfl ?_
  refine w_iflt (t := 12) dX5_keptByFrame_1 (by decide) (fun c1 => ?_) (fun c1 => ?_)
  · refine w_op (pc' := 13) dX5_keptByFrame_12 rfl ?_
    refine w_goto (t := 30) dX5_keptByFrame_13 (by decide) ?_
    exact w_lreturn dX5_keptByFrame_30 ⟨rfl, s_eql (by unfold s_kbf; exact if_neg (fun z => Int32.not_lt.mpr z.1 c1)) k⟩
  · refine w_op (pc' := 5) dX5_keptByFrame_4 rfl ?_
    refine w_op (pc' := 6) dX5_keptByFrame_5 rfl ?_
    refine t_callV (t := T_MEM) (As := []) dX5_keptByFrame_6 rfl rM_X5_frames (by decide) rfl rfl (by decide) (by decide) (Nat.le_of_ble_eq_true rfl) rfl (hp.1 _ rfl) (c_X5_frames hp hM ?_)
    show s_w _ _ _ 9 _ _ _ _
    refine w_icmplt (t := 16) dX5_keptByFrame_9 (by decide) (fun c9 => ?_) (fun c9 => ?_)
    · refine w_op (pc' := 17) dX5_keptByFrame_16 rfl ?_
      refine t_getG0 (G := g_e_frameKept) dX5_keptByFrame_17 rfl rfl (by decide) rfl (fun _ => rfl) (hp.1 _ rfl) ?_
      refine w_op (pc' := 21) dX5_keptByFrame_20 rfl ?_
      refine t_getI (F := f_guest) dX5_keptByFrame_21 rfl rfl (by decide) rfl ⟨rfl, fun _ => rfl⟩ (hp.1 _ rfl) ?_
      refine w_bipush (v := 20) dX5_keptByFrame_24 rfl ?_
      refine w_op (pc' := 27) dX5_keptByFrame_26 rfl ?_
      refine w_op (pc' := 28) dX5_keptByFrame_27 rfl ?_
      refine w_op (pc' := 29) dX5_keptByFrame_28 rfl ?_
      refine t_lald0 (F := j_a_frameKept) dX5_keptByFrame_29 rfl (by decide) rfl (hp.1 _ rfl) (s_frm_ix hM (Int32.not_lt.mp c1) (s_lt20 hM c9)) (s_frm_ix hM (Int32.not_lt.mp c1) (s_lt20 hM c9)).2.2 ?_
      exact w_lreturn dX5_keptByFrame_30 ⟨rfl, s_eql (by unfold s_kbf; exact if_pos ⟨Int32.not_lt.mp c1, c9⟩) k⟩
    · refine w_op (pc' := 13) dX5_keptByFrame_12 rfl ?_
      refine w_goto (t := 30) dX5_keptByFrame_13 (by decide) ?_
      exact w_lreturn dX5_keptByFrame_30 ⟨rfl, s_eql (by unfold s_kbf; exact if_neg (fun z => c9 z.2)) k⟩
set_option maxRecDepth 100000 in
set_option maxHeartbeats 4000000 in
theorem c_X5_drawnByFrame {X : e_XT} {d : Nat} {p : e_Sp} {I : e_I} {J : e_Jt} {c : Nat × Nat} {w : e_Rw1} {Q : e_Rt → e_SS → Prop} (hp : s_ok p) (hM : s_Me I) {x : Int32} (k : Q (.inl (some (.long (s_kbf j_a_frameDrawn I J x)))) (p, I, J, c, w)) : s_c X (d + 1) 77 [.ref (p.1 T_MEM 0), .int x] (p, I, J, c, w) Q := by
  refine m_X5_drawnByFrame (Nat.le_of_ble_eq_true rfl) ?_
  show s_w _ _ _ 0 _ _ _ _
  refine w_op (pc' := 1) dX5_drawnByFrame_0 rfl ?_
  refine w_iflt (t := 12) dX5_drawnByFrame_1 (by decide) (fun c1 => ?_) (fun c1 => ?_)
  · refine w_op (pc' := 13) dX5_drawnByFrame_12 rfl ?_
    refine w_goto (t := 30) dX5_drawnByFrame_13 (by decide) ?_
    exact w_lreturn dX5_drawnByFrame_30 ⟨rfl, s_eql (by unfold s_kbf; exact if_neg (fun z => Int32.not_lt.mpr z.1 c1)) k⟩
  · refine w_op (pc' := 5) dX5_drawnByFrame_4 rfl ?_
    refine w_op (pc' := 6) dX5_drawnByFrame_5 rfl ?_
    refine t_callV (t := T_MEM) (As := []) dX5_drawnByFrame_6 rfl rM_X5_frames (by decide) rfl rfl (by decide) (by decide) (Nat.le_of_ble_eq_true rfl) rfl (hp.1 _ rfl) (c_X5_frames hp hM ?_)
    show s_w _ _ _ 9 _ _ _ _
    refine w_icmplt (t := 16) dX5_drawnByFrame_9 (by decide) (fun c9 => ?_) (fun c9 => ?_)
    · refine w_op (pc' := 17) dX5_drawnByFrame_16 rfl ?_
      refine t_getG0 (G := g_e_frameDrawn) dX5_drawnByFrame_17 rfl rfl (by decide) rfl (fun _ => rfl) (hp.1 _ rfl) ?_
      refine w_op (pc' := 21) dX5_drawnByFrame_20 rfl ?_
      refine t_getI (F := f_guest) dX5_drawnByFrame_21 rfl rfl (by decide) rfl ⟨rfl, fun _ => rfl⟩ (hp.1 _ rfl) ?_
      refine w_bipush (v := 20) dX5_drawnByFrame_24 rfl ?_
      refine w_op (pc' := 27) dX5_drawnByFrame_26 rfl ?_
      refine w_op (pc' := 28) dX5_drawnByFrame_27 rfl ?_
      refine w_op (pc' := 29) dX5_drawnByFrame_28 rfl ?_
      refine t_lald0 (F := j_a_frameDrawn) dX5_drawnByFrame_29 rfl (by decide) rfl (hp.1 _ rfl) (s_frm_ix hM (Int32.not_lt.mp c1) (s_lt20 hM c9)) (s_frm_ix hM (Int32.not_lt.mp c1) (s_lt20 hM c9)).2.2 ?_
      exact w_lreturn dX5_drawnByFrame_30 ⟨rfl, s_eql (by unfold s_kbf; exact if_pos ⟨Int32.not_lt.mp c1, c9⟩) k⟩
    · refine w_op (pc' := 13) dX5_drawnByFrame_12 rfl ?_
      refine w_goto (t := 30) dX5_drawnByFrame_13 (by decide) ?_
      exact w_lreturn dX5_drawnByFrame_30 ⟨rfl, s_eql (by unfold s_kbf; exact if_neg (fun z => c9 z.2)) k⟩
