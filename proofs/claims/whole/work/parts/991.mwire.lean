/-! 991: wires and rows of the second implementation (printed by wip/whole/p991.py) -/
theorem q_K.up {p : e_Sp} {I : e_I} {k F j : Nat} {x : Int32} (h : q_K p I k) (h1 : F = f_mk_rows → j = k → ∃ m, m ≤ 4 ∧ x = nI m) (h2 : F = f_mk_relay → j = k → (x = -1 ∨ ∃ r, r < 16 ∧ x = nI r)) (h3 : F ≠ f_mk_division) : q_K p (s_up I F j x) k := by
  obtain ⟨a, b, c, d, e⟩ := h
  refine ⟨a, b, by rw [s_up_n (Ne.symm h3)]; exact c, ?_, ?_⟩
  · by_cases z : f_mk_rows = F ∧ k = j
    · rw [show s_up I F j x f_mk_rows k = x from if_pos z]; exact h1 z.1.symm z.2.symm
    · rw [show s_up I F j x f_mk_rows k = I f_mk_rows k from if_neg z]; exact d
  · by_cases z : f_mk_relay = F ∧ k = j
    · rw [show s_up I F j x f_mk_relay k = x from if_pos z]; exact h2 z.1.symm z.2.symm
    · rw [show s_up I F j x f_mk_relay k = I f_mk_relay k from if_neg z]; exact e
theorem q_G.upK {p : e_Sp} {I : e_I} {c : Nat × Nat} {nk nr np a b n F j : Nat} {x : Int32} (h : q_G p I c nk nr np a b n) (h1 : F = f_mk_rows → ∃ m, m ≤ 4 ∧ x = nI m) (h2 : F = f_mk_relay → (x = -1 ∨ ∃ r, r < 16 ∧ x = nI r)) (hF : F = f_mk_rows ∨ F = f_mk_relay) : q_G p (s_up I F j x) c nk nr np a b n := by
  have hd : ∀ F', F' ≠ f_mk_rows → F' ≠ f_mk_relay → s_up I F j x F' = I F' := fun F' u v => by
    funext i; exact s_up_n (by rcases hF with rfl | rfl; exact u; exact v)
  obtain ⟨⟨a1, b1, b2, b3, b4, b5, b6⟩, g2, g3, g4, g5, g6, g7⟩ := h
  refine ⟨⟨a1, by rw [hd f_l_size (by decide) (by decide)]; exact b1, by rw [hd f_l_size (by decide) (by decide)]; exact b2, by rw [hd f_m_pipes (by decide) (by decide)]; exact b3, fun k hk => (b4 k hk).up (fun u _ => h1 u) (fun u _ => h2 u) (by rcases hF with rfl | rfl <;> decide), fun r hr => ?_, fun q hq => ?_⟩, g2, ?_, ?_, ?_, g6.eq (by rw [hd f_l_size (by decide) (by decide)]), g7⟩
  · have := b5 r hr
    unfold q_R at this ⊢
    rw [hd f_mr_lowest (by decide) (by decide), hd f_mr_highest (by decide) (by decide), hd f_mr_base (by decide) (by decide), hd f_mr_division (by decide) (by decide)]
    exact this
  · rw [hd f_m_rankOf (by decide) (by decide), hd f_mr_base (by decide) (by decide)]; exact b6 q hq
  · unfold q_S; rw [hd f_m_operation (by decide) (by decide), hd f_m_first (by decide) (by decide), hd f_m_second (by decide) (by decide)]; exact g3
  · unfold q_bo; rw [hd f_m_isDown (by decide) (by decide)]; exact g4
  · unfold q_bo; rw [hd f_m_isRelay (by decide) (by decide)]; exact g5
theorem q_m1 {y : Int32} (h0 : -1 ≤ y) (h1 : y ≤ 15) : y = -1 ∨ ∃ r, r < 16 ∧ y = nI r := by
  by_cases z : y = -1
  · exact Or.inl z
  · obtain ⟨j, hj, e⟩ := q_rg (x := y) (m := 15) (by grind) h1 (by decide)
    exact Or.inr ⟨j, by omega, e⟩
def q_iS (y x : Int32) : Bool := decide (0 ≤ y ∧ y ≤ 131) || (decide (200 ≤ y ∧ y ≤ 260) || (decide (300 ≤ y ∧ y ≤ 360) || decide (400 ≤ y ∧ y ≤ 399 + x)))
set_option maxRecDepth 100000 in
theorem q_sk_all : ∀ j, j < 416 → (j ≤ 131 ∨ (200 ≤ j ∧ j ≤ 260) ∨ (300 ≤ j ∧ j ≤ 360) ∨ 400 ≤ j) → q_sk (nI j) := by
  unfold q_sk s_isk
  decide +kernel
theorem q_sk_of {y x : Int32} (hx : 0 ≤ x ∧ x ≤ 15) (h : q_iS y x = true) : q_sk y := by
  have h0 : 0 ≤ y := by unfold q_iS at h; grind
  have h1 : y ≤ nI 414 := by rw [show nI 414 = 414 from rfl]; unfold q_iS at h; grind
  obtain ⟨j, hj, e⟩ := q_rg h0 h1 (by decide)
  rw [e]
  refine q_sk_all j (by omega) ?_
  have d1 : j ≤ 131 ↔ y ≤ 131 := by rw [e]; exact (nI_leI (b := 131) (by omega) (by decide)).symm
  have d2 : 200 ≤ j ↔ 200 ≤ y := by rw [e]; exact (nI_leI (a := 200) (by decide) (by omega)).symm
  have d3 : j ≤ 260 ↔ y ≤ 260 := by rw [e]; exact (nI_leI (b := 260) (by omega) (by decide)).symm
  have d4 : 300 ≤ j ↔ 300 ≤ y := by rw [e]; exact (nI_leI (a := 300) (by decide) (by omega)).symm
  have d5 : j ≤ 360 ↔ y ≤ 360 := by rw [e]; exact (nI_leI (b := 360) (by omega) (by decide)).symm
  have d6 : 400 ≤ j ↔ 400 ≤ y := by rw [e]; exact (nI_leI (a := 400) (by decide) (by omega)).symm
  rw [d1, d2, d3, d4, d5, d6]
  unfold q_iS at h
  grind
def q_wi (I : e_I) (x ch y z : Int32) : e_I := s_up (s_up (s_up I f_m_operation x.toNatClampNeg ch) f_m_first x.toNatClampNeg y) f_m_second x.toNatClampNeg z
theorem s_eqN.qwi {I : e_I} {x ch y z : Int32} : s_eqN [f_m_operation, f_m_first, f_m_second] I (q_wi I x ch y z) := ((s_eqN.up (by decide)).trans (s_eqN.up (by decide))).trans (s_eqN.up (by decide))
theorem q_G.wi {p : e_Sp} {I : e_I} {c : Nat × Nat} {nk nr np a b n : Nat} {x ch y z : Int32} (h : q_G p I c nk nr np a b n) (hy : q_sk y) (hz : ¬ ch = 33 → q_sk z) : q_G p (q_wi I x ch y z) c nk nr np a b n := by
  obtain ⟨g1, g2, g3, g4, g5, g6, g7⟩ := h
  refine ⟨g1.eqN s_eqN.qwi (by decide), g2, fun r hr => ?_, g4.eqN s_eqN.qwi (by decide), g5.eqN s_eqN.qwi (by decide), g6.eq (congrFun (s_eqN.qwi f_l_size (by decide)) 4), g7⟩
  unfold q_wi
  by_cases e : r = x.toNatClampNeg
  · subst e
    rw [s_up_n (by decide), s_up_n (by decide), s_up_s, s_up_n (by decide), s_up_s, s_up_s]
    exact fun _ => ⟨hy, hz⟩
  · rw [s_up_n (by decide), s_up_n (by decide), s_up_i e, s_up_n (by decide), s_up_i e, s_up_n (by decide), s_up_i e, s_up_n (by decide)]
    exact g3 r hr

set_option maxRecDepth 100000 in
set_option maxHeartbeats 800000 in
theorem c_X16_drive {X : e_XT} {d : Nat} {p : e_Sp} {I : e_I} {J : e_Jt} {c : Nat × Nat} {w : e_Rw1} {Q : e_Rt → e_SS → Prop} {nk nr np a b n : Nat} (hG : q_G p I c nk nr np a b n) (hX : (X 8).1 = 0) {x y : Int32} (k : ∀ kk, kk < nk → x = nI kk → (-1 ≤ y ∧ y ≤ 15) → ∀ p' c' n', q_X p p' → q_L p' (q_st nk nr np (s_up I f_mk_relay kk y, J)).1 c' a b n' → n' ≤ n + np → Q (.inl (some (.int (I f_mk_relay kk)))) (p', q_an (q_st nk nr np (s_up I f_mk_relay kk y, J)).1, (q_st nk nr np (s_up I f_mk_relay kk y, J)).2, c', w)) (kx : ¬ ((0 ≤ x ∧ x < nI nk) ∧ (-1 ≤ y ∧ y ≤ 15)) → Q (.inl (some (.int 0))) (p, q_fl I 1, J, c, w)) : s_c X (d + 10) 306 [.ref (p.1 T_MODEL 0), .int x, .int y] (p, I, J, c, w) Q := by
  have hM := hG.1
  have hp := hM.1
  have hk40 := hM.2.1
  have hr10 := hM.2.2.1
  have hnp := hM.2.2.2.1
  refine m_X16_drive (Nat.le_of_ble_eq_true rfl) ?_
  show s_w _ _ _ 0 _ _ _ _
  refine w_op (pc' := 1) dX16_drive_0 rfl ?_
  refine w_op (pc' := 2) dX16_drive_1 rfl ?_
  refine t_callV (t := T_MODEL) (As := [_]) dX16_drive_2 rfl rM_X16_isKnob (by decide) rfl rfl (by decide) (by decide) (Nat.le_of_ble_eq_true rfl) rfl (hp.1 _ rfl) (c_X16_isKnob hM ?_)
  show s_w _ _ _ 5 _ _ _ _
  refine w_ifeq (t := 18) dX16_drive_5 (by decide) (fun c5 => ?_) (fun c5 => ?_)
  · refine w_op (pc' := 19) dX16_drive_18 rfl ?_
    refine w_iconst (v := 1) dX16_drive_19 rfl ?_
    refine t_callV (t := T_MODEL) (As := [_]) dX16_drive_20 rfl rM_X16_fails (by decide) rfl rfl (by decide) (by decide) (Nat.le_of_ble_eq_true rfl) rfl (hp.1 _ rfl) (c_X16_fails hp ?_)
    show s_w _ _ _ 23 _ _ _ _
    exact w_ireturn dX16_drive_23 ⟨rfl, kx (fun u => (of_decide_eq_false (bI_0.mp c5)) u.1)⟩
  · refine w_op (pc' := 9) dX16_drive_8 rfl ?_
    refine w_iconst (v := (-1)) dX16_drive_9 rfl ?_
    refine w_bipush (v := 15) dX16_drive_10 rfl ?_
    refine t_callS (As := [_, _, _]) dX16_drive_12 rfl rM_X16_in (by decide) rfl rfl (by decide) (Nat.le_of_ble_eq_true rfl) (c_X16_in ?_)
    show s_w _ _ _ 15 _ _ _ _
    refine w_ifne (t := 24) dX16_drive_15 (by decide) (fun c15 => ?_) (fun c15 => ?_)
    · have hx := of_decide_eq_true (bI_n0.mp c5)
      obtain ⟨kk, hk, rfl⟩ := s_nat hx.1 hx.2 (by omega)
      have hK := hM.2.2.2.2.1 kk hk
      have hv := hK.1
      have hd := of_decide_eq_true (bI_n0.mp c15)
      refine w_op (pc' := 25) dX16_drive_24 rfl ?_
      refine t_getG0 (G := g_m_list1) dX16_drive_25 rfl rfl (by decide) rfl (fun _ => rfl) (hp.1 _ rfl) ?_
      refine w_op (pc' := 29) dX16_drive_28 rfl ?_
      refine t_callV (t := T_LIST) (As := [_]) dX16_drive_29 rfl rM_Jx4a65c_get_915e3 (by decide) rfl rfl (by decide) (by decide) (Nat.le_of_ble_eq_true rfl) rfl (hp.2 _ (by decide)) (c_get3 hp hk40.2 (by omega) hk ?_)
      show s_w _ _ _ 32 _ _ _ _
      refine t_chk dX16_drive_32 rfl rfl (by decide) (by assumption) ?_
      refine t_getI (F := f_mk_relay) dX16_drive_35 rfl rfl (by decide) rfl ⟨rfl, fun _ => rfl⟩ (by assumption) ?_
      refine w_op (pc' := 39) (ll' := [_, _, _, _]) dX16_drive_38 rfl ?_
      refine w_op (pc' := 40) dX16_drive_39 rfl ?_
      refine t_getG0 (G := g_m_list1) dX16_drive_40 rfl rfl (by decide) rfl (fun _ => rfl) (hp.1 _ rfl) ?_
      refine w_op (pc' := 44) dX16_drive_43 rfl ?_
      refine t_callV (t := T_LIST) (As := [_]) dX16_drive_44 rfl rM_Jx4a65c_get_915e3 (by decide) rfl rfl (by decide) (by decide) (Nat.le_of_ble_eq_true rfl) rfl (hp.2 _ (by decide)) (c_get3 hp hk40.2 (by omega) hk ?_)
      show s_w _ _ _ 47 _ _ _ _
      refine t_chk dX16_drive_47 rfl rfl (by decide) (by assumption) ?_
      refine w_op (pc' := 51) dX16_drive_50 rfl ?_
      refine t_putI (F := f_mk_relay) dX16_drive_51 rfl rfl (by decide) (by decide) rfl rfl (Or.inl rfl) (by assumption) ?_
      refine w_op (pc' := 55) dX16_drive_54 rfl ?_
      refine w_op (pc' := 56) dX16_drive_55 rfl ?_
      refine t_callV (t := T_MODEL) (As := [_]) dX16_drive_56 rfl rM_X16_settled (by decide) rfl rfl (by decide) (by decide) (Nat.le_of_ble_eq_true rfl) rfl (hp.1 _ rfl) (c_X16_settled (hG.upK (fun u => absurd u (by decide)) (fun _ => q_m1 hd.1 hd.2) (Or.inr rfl)) hX (fun p1 c1 n1 x1 hL1 hn1 => ?_))
      show s_w _ _ _ 59 _ _ _ _
      exact w_ireturn dX16_drive_59 ⟨rfl, k kk hk rfl hd p1 c1 n1 x1 hL1 hn1⟩
    · refine w_op (pc' := 19) dX16_drive_18 rfl ?_
      refine w_iconst (v := 1) dX16_drive_19 rfl ?_
      refine t_callV (t := T_MODEL) (As := [_]) dX16_drive_20 rfl rM_X16_fails (by decide) rfl rfl (by decide) (by decide) (Nat.le_of_ble_eq_true rfl) rfl (hp.1 _ rfl) (c_X16_fails hp ?_)
      show s_w _ _ _ 23 _ _ _ _
      exact w_ireturn dX16_drive_23 ⟨rfl, kx (fun u => (of_decide_eq_false (bI_0.mp c15)) u.2)⟩

set_option maxRecDepth 100000 in
set_option maxHeartbeats 800000 in
theorem c_X16_isSource {X : e_XT} {d : Nat} {p : e_Sp} {I : e_I} {J : e_Jt} {c : Nat × Nat} {w : e_Rw1} {Q : e_Rt → e_SS → Prop} {y x : Int32} (k : Q (.inl (some (.int (bI (q_iS y x))))) (p, I, J, c, w)) : s_c X (d + 1) 304 [.int y, .int x] (p, I, J, c, w) Q := by
  refine m_X16_isSource (Nat.le_of_ble_eq_true rfl) ?_
  show s_w _ _ _ 0 _ _ _ _
  refine w_op (pc' := 1) dX16_isSource_0 rfl ?_
  refine w_iconst (v := 0) dX16_isSource_1 rfl ?_
  refine w_sipush (v := 131) dX16_isSource_2 rfl ?_
  refine t_callS (As := [_, _, _]) dX16_isSource_5 rfl rM_X16_in (by decide) rfl rfl (by decide) (Nat.le_of_ble_eq_true rfl) (c_X16_in ?_)
  show s_w _ _ _ 8 _ _ _ _
  refine w_ifne (t := 52) dX16_isSource_8 (by decide) (fun c8 => ?_) (fun c8 => ?_)
  · refine w_iconst (v := 1) dX16_isSource_52 rfl ?_
    refine w_goto (t := 57) dX16_isSource_53 (by decide) ?_
    exact w_ireturn dX16_isSource_57 ⟨s_rcb (by first | exact Or.inl rfl | exact Or.inr rfl | exact bI_or _), s_eqi (by unfold q_iS; grind) k⟩
  · refine w_op (pc' := 12) dX16_isSource_11 rfl ?_
    refine w_sipush (v := 200) dX16_isSource_12 rfl ?_
    refine w_sipush (v := 260) dX16_isSource_15 rfl ?_
    refine t_callS (As := [_, _, _]) dX16_isSource_18 rfl rM_X16_in (by decide) rfl rfl (by decide) (Nat.le_of_ble_eq_true rfl) (c_X16_in ?_)
    show s_w _ _ _ 21 _ _ _ _
    refine w_ifne (t := 52) dX16_isSource_21 (by decide) (fun c21 => ?_) (fun c21 => ?_)
    · refine w_iconst (v := 1) dX16_isSource_52 rfl ?_
      refine w_goto (t := 57) dX16_isSource_53 (by decide) ?_
      exact w_ireturn dX16_isSource_57 ⟨s_rcb (by first | exact Or.inl rfl | exact Or.inr rfl | exact bI_or _), s_eqi (by unfold q_iS; grind) k⟩
    · refine w_op (pc' := 25) dX16_isSource_24 rfl ?_
      refine w_sipush (v := 300) dX16_isSource_25 rfl ?_
      refine w_sipush (v := 360) dX16_isSource_28 rfl ?_
      refine t_callS (As := [_, _, _]) dX16_isSource_31 rfl rM_X16_in (by decide) rfl rfl (by decide) (Nat.le_of_ble_eq_true rfl) (c_X16_in ?_)
      show s_w _ _ _ 34 _ _ _ _
      refine w_ifne (t := 52) dX16_isSource_34 (by decide) (fun c34 => ?_) (fun c34 => ?_)
      · refine w_iconst (v := 1) dX16_isSource_52 rfl ?_
        refine w_goto (t := 57) dX16_isSource_53 (by decide) ?_
        exact w_ireturn dX16_isSource_57 ⟨s_rcb (by first | exact Or.inl rfl | exact Or.inr rfl | exact bI_or _), s_eqi (by unfold q_iS; grind) k⟩
      · refine w_op (pc' := 38) dX16_isSource_37 rfl ?_
        refine w_sipush (v := 400) dX16_isSource_38 rfl ?_
        refine w_sipush (v := 399) dX16_isSource_41 rfl ?_
        refine w_op (pc' := 45) dX16_isSource_44 rfl ?_
        refine w_op (pc' := 46) dX16_isSource_45 rfl ?_
        refine t_callS (As := [_, _, _]) dX16_isSource_46 rfl rM_X16_in (by decide) rfl rfl (by decide) (Nat.le_of_ble_eq_true rfl) (c_X16_in ?_)
        show s_w _ _ _ 49 _ _ _ _
        refine w_ifeq (t := 56) dX16_isSource_49 (by decide) (fun c49 => ?_) (fun c49 => ?_)
        · refine w_iconst (v := 0) dX16_isSource_56 rfl ?_
          exact w_ireturn dX16_isSource_57 ⟨s_rcb (by first | exact Or.inl rfl | exact Or.inr rfl | exact bI_or _), s_eqi (by unfold q_iS; grind) k⟩
        · refine w_iconst (v := 1) dX16_isSource_52 rfl ?_
          refine w_goto (t := 57) dX16_isSource_53 (by decide) ?_
          exact w_ireturn dX16_isSource_57 ⟨s_rcb (by first | exact Or.inl rfl | exact Or.inr rfl | exact bI_or _), s_eqi (by unfold q_iS; grind) k⟩

set_option maxRecDepth 100000 in
set_option maxHeartbeats 800000 in
theorem l_X16_wire {X : e_XT} {d : Nat} {p : e_Sp} {I : e_I} {J : e_Jt} {c : Nat × Nat} {w : e_Rw1} {Q : e_Rt → e_SS → Prop} {nk nr np a b n : Nat} (hG : q_G p I c nk nr np a b n) (hX : (X 8).1 = 0) {x ch y z : Int32} (hd : 0 ≤ x ∧ x ≤ 15) (hch : vp_nar .char ch = ch) (hw : ((ch = 38 ∨ ch = 124 ∨ ch = 94 ∨ ch = 33) ∧ q_iS y x = true ∧ (ch = 33 ∨ q_iS z x = true))) {o5 : Option Value} (k : ∀ p' c' n', q_X p p' → q_L p' (q_st nk nr np (q_wi I x ch y z, J)).1 c' a b n' → n' ≤ n + np → Q (.inl (some (.int ((q_st nk nr np (q_wi I x ch y z, J)).1 f_m_isRelay x.toNatClampNeg)))) (p', q_an (q_st nk nr np (q_wi I x ch y z, J)).1, (q_st nk nr np (q_wi I x ch y z, J)).2, c', w)) : s_w X (d + 9) K_X16_wire 81 [some (.ref (p.1 T_MODEL 0)), some (.int x), some (.int ch), some (.int y), some (.int z), o5] [] (p, I, J, c, w) (fun r S' => e_rcr (some .boolean) r = true ∧ Q r S') := by
  have hM := hG.1
  have hp := hM.1
  have hix : s_ix x x.toNatClampNeg 16 := s_ixr (N := 15) hd.1 hd.2 (by decide)
  have hG1 := hG.wi (x := x) (ch := ch) (y := y) (z := z) (q_sk_of hd hw.2.1) (fun u => q_sk_of hd (hw.2.2.resolve_left u))
  refine w_op (pc' := 82) dX16_wire_81 rfl ?_
  refine t_getG0 (G := g_m_operation) dX16_wire_82 rfl rfl (by decide) rfl (fun _ => rfl) (hp.1 _ rfl) ?_
  refine w_op (pc' := 86) dX16_wire_85 rfl ?_
  refine w_op (pc' := 87) dX16_wire_86 rfl ?_
  refine t_cast0 (F := f_m_operation) dX16_wire_87 rfl (by decide) (by decide) rfl (hp.1 _ rfl) hix hix.2.2 hch ?_
  refine w_op (pc' := 89) dX16_wire_88 rfl ?_
  refine t_getG0 (G := g_m_first) dX16_wire_89 rfl rfl (by decide) rfl (fun _ => rfl) (hp.1 _ rfl) ?_
  refine w_op (pc' := 93) dX16_wire_92 rfl ?_
  refine w_op (pc' := 94) dX16_wire_93 rfl ?_
  refine t_iast0 (F := f_m_first) dX16_wire_94 rfl (by decide) (by decide) rfl (hp.1 _ rfl) hix hix.2.2 ?_
  refine w_op (pc' := 96) dX16_wire_95 rfl ?_
  refine t_getG0 (G := g_m_second) dX16_wire_96 rfl rfl (by decide) rfl (fun _ => rfl) (hp.1 _ rfl) ?_
  refine w_op (pc' := 100) dX16_wire_99 rfl ?_
  refine w_op (pc' := 102) dX16_wire_100 rfl ?_
  refine t_iast0 (F := f_m_second) dX16_wire_102 rfl (by decide) (by decide) rfl (hp.1 _ rfl) hix hix.2.2 ?_
  refine w_op (pc' := 104) dX16_wire_103 rfl ?_
  refine t_callV (t := T_MODEL) (As := []) dX16_wire_104 rfl rM_X16_settles (by decide) rfl rfl (by decide) (by decide) (Nat.le_of_ble_eq_true rfl) rfl (hp.1 _ rfl) (c_X16_settles hG1.1 hG1.2.1 hG1.2.2.1 hG1.2.2.2.1 hG1.2.2.2.2.1 hG1.2.2.2.2.2.1 hX hG1.2.2.2.2.2.2.1 hG1.2.2.2.2.2.2.2 (fun p1 c1 n1 x1 hL1 hn1 => ?_))
  show s_w _ _ _ 107 _ _ _ _
  rw [← x1.a (t := T_MODEL) (i := 0) (by decide)]
  have hp := (hM.e x1 (q_e.rfl' (T := [])) (by decide)).1
  refine w_op (pc' := 108) dX16_wire_107 rfl ?_
  refine w_op (pc' := 109) dX16_wire_108 rfl ?_
  refine t_getG0 (G := g_m_isRelay) dX16_wire_109 rfl rfl (by decide) rfl (fun _ => rfl) (hp.1 _ rfl) ?_
  refine w_op (pc' := 113) dX16_wire_112 rfl ?_
  refine t_bald0 (F := f_m_isRelay) dX16_wire_113 rfl (by decide) rfl (hp.1 _ rfl) hix hix.2.2 ?_
  refine t_callV (t := T_MODEL) (As := [_]) dX16_wire_114 rfl rM_X16_says (by decide) rfl rfl (by decide) (by decide) (Nat.le_of_ble_eq_true rfl) rfl (hp.1 _ rfl) (c_X16_says hp (q_bo.st (a := (q_wi I x ch y z, J)) hG1.2.2.2.2.1 _) ?_)
  show s_w _ _ _ 117 _ _ _ _
  exact w_ireturn dX16_wire_117 ⟨s_rcb (q_bo.st (a := (q_wi I x ch y z, J)) hG1.2.2.2.2.1 _), k p1 c1 n1 x1 hL1 hn1⟩

set_option maxRecDepth 100000 in
set_option maxHeartbeats 800000 in
theorem c_X16_wire {X : e_XT} {d : Nat} {p : e_Sp} {I : e_I} {J : e_Jt} {c : Nat × Nat} {w : e_Rw1} {Q : e_Rt → e_SS → Prop} {nk nr np a b n : Nat} (hG : q_G p I c nk nr np a b n) (hX : (X 8).1 = 0) {x ch y z : Int32} (hch : vp_nar .char ch = ch) (k : (0 ≤ x ∧ x ≤ 15) → ((ch = 38 ∨ ch = 124 ∨ ch = 94 ∨ ch = 33) ∧ q_iS y x = true ∧ (ch = 33 ∨ q_iS z x = true)) → ∀ p' c' n', q_X p p' → q_L p' (q_st nk nr np (q_wi I x ch y z, J)).1 c' a b n' → n' ≤ n + np → Q (.inl (some (.int ((q_st nk nr np (q_wi I x ch y z, J)).1 f_m_isRelay x.toNatClampNeg)))) (p', q_an (q_st nk nr np (q_wi I x ch y z, J)).1, (q_st nk nr np (q_wi I x ch y z, J)).2, c', w)) (kx : ¬ (0 ≤ x ∧ x ≤ 15) → Q (.inl (some (.int 0))) (p, q_fl I 1, J, c, w)) (kx2 : (0 ≤ x ∧ x ≤ 15) → ¬ ((ch = 38 ∨ ch = 124 ∨ ch = 94 ∨ ch = 33) ∧ q_iS y x = true ∧ (ch = 33 ∨ q_iS z x = true)) → Q (.inl (some (.int 0))) (p, q_fl I 2, J, c, w)) : s_c X (d + 9) 303 [.ref (p.1 T_MODEL 0), .int x, .int ch, .int y, .int z] (p, I, J, c, w) Q := by
  have hM := hG.1
  have hp := hM.1
  have hk40 := hM.2.1
  have hr10 := hM.2.2.1
  have hnp := hM.2.2.2.1
  refine m_X16_wire (Nat.le_of_ble_eq_true rfl) ?_
  show s_w _ _ _ 0 _ _ _ _
  refine w_op (pc' := 1) dX16_wire_0 rfl ?_
  refine w_iconst (v := 0) dX16_wire_1 rfl ?_
  refine w_bipush (v := 15) dX16_wire_2 rfl ?_
  refine t_callS (As := [_, _, _]) dX16_wire_4 rfl rM_X16_in (by decide) rfl rfl (by decide) (Nat.le_of_ble_eq_true rfl) (c_X16_in ?_)
  show s_w _ _ _ 7 _ _ _ _
  refine w_ifne (t := 16) dX16_wire_7 (by decide) (fun c7 => ?_) (fun c7 => ?_)
  · refine w_op (pc' := 17) dX16_wire_16 rfl ?_
    refine w_bipush (v := 38) dX16_wire_17 rfl ?_
    refine w_icmpeq (t := 40) dX16_wire_19 (by decide) (fun c19 => ?_) (fun c19 => ?_)
    · refine w_iconst (v := 1) dX16_wire_40 rfl ?_
      refine w_goto (t := 45) dX16_wire_41 (by decide) ?_
      refine w_op (pc' := 47) (ll' := [_, _, _, _, _, _]) dX16_wire_45 rfl ?_
      refine w_op (pc' := 49) dX16_wire_47 rfl ?_
      refine w_ifeq (t := 75) dX16_wire_49 (by decide) (fun c49 => ?_) (fun c49 => ?_)
      · exact absurd c49 (by decide)
      · refine w_op (pc' := 53) dX16_wire_52 rfl ?_
        refine w_op (pc' := 54) dX16_wire_53 rfl ?_
        refine t_callS (As := [_, _]) dX16_wire_54 rfl rM_X16_isSource (by decide) rfl rfl (by decide) (Nat.le_of_ble_eq_true rfl) (c_X16_isSource ?_)
        show s_w _ _ _ 57 _ _ _ _
        refine w_ifeq (t := 75) dX16_wire_57 (by decide) (fun c57 => ?_) (fun c57 => ?_)
        · refine w_op (pc' := 76) dX16_wire_75 rfl ?_
          refine w_iconst (v := 2) dX16_wire_76 rfl ?_
          refine t_callV (t := T_MODEL) (As := [_]) dX16_wire_77 rfl rM_X16_refuses (by decide) rfl rfl (by decide) (by decide) (Nat.le_of_ble_eq_true rfl) rfl (hp.1 _ rfl) (c_X16_refuses hp ?_)
          show s_w _ _ _ 80 _ _ _ _
          exact w_ireturn dX16_wire_80 ⟨s_rcb (Or.inl rfl), kx2 (of_decide_eq_true (bI_n0.mp c7)) (fun u => by have u2 := u.2.1; rw [bI_0.mp c57] at u2; cases u2)⟩
        · refine w_op (pc' := 61) dX16_wire_60 rfl ?_
          refine w_bipush (v := 33) dX16_wire_61 rfl ?_
          refine w_icmpeq (t := 81) dX16_wire_63 (by decide) (fun c63 => ?_) (fun c63 => ?_)
          · exact l_X16_wire hG hX (of_decide_eq_true (bI_n0.mp c7)) hch ⟨Or.inl c19, bI_n0.mp c57, Or.inl c63⟩ (fun p1 c1 n1 x1 hL1 hn1 => k (of_decide_eq_true (bI_n0.mp c7)) ⟨Or.inl c19, bI_n0.mp c57, Or.inl c63⟩ p1 c1 n1 x1 hL1 hn1)
          · refine w_op (pc' := 68) dX16_wire_66 rfl ?_
            refine w_op (pc' := 69) dX16_wire_68 rfl ?_
            refine t_callS (As := [_, _]) dX16_wire_69 rfl rM_X16_isSource (by decide) rfl rfl (by decide) (Nat.le_of_ble_eq_true rfl) (c_X16_isSource ?_)
            show s_w _ _ _ 72 _ _ _ _
            refine w_ifne (t := 81) dX16_wire_72 (by decide) (fun c72 => ?_) (fun c72 => ?_)
            · exact l_X16_wire hG hX (of_decide_eq_true (bI_n0.mp c7)) hch ⟨Or.inl c19, bI_n0.mp c57, Or.inr (bI_n0.mp c72)⟩ (fun p1 c1 n1 x1 hL1 hn1 => k (of_decide_eq_true (bI_n0.mp c7)) ⟨Or.inl c19, bI_n0.mp c57, Or.inr (bI_n0.mp c72)⟩ p1 c1 n1 x1 hL1 hn1)
            · refine w_op (pc' := 76) dX16_wire_75 rfl ?_
              refine w_iconst (v := 2) dX16_wire_76 rfl ?_
              refine t_callV (t := T_MODEL) (As := [_]) dX16_wire_77 rfl rM_X16_refuses (by decide) rfl rfl (by decide) (by decide) (Nat.le_of_ble_eq_true rfl) rfl (hp.1 _ rfl) (c_X16_refuses hp ?_)
              show s_w _ _ _ 80 _ _ _ _
              exact w_ireturn dX16_wire_80 ⟨s_rcb (Or.inl rfl), kx2 (of_decide_eq_true (bI_n0.mp c7)) (fun u => u.2.2.elim c63 (fun v => by rw [bI_0.mp c72] at v; cases v))⟩
    · refine w_op (pc' := 23) dX16_wire_22 rfl ?_
      refine w_bipush (v := 124) dX16_wire_23 rfl ?_
      refine w_icmpeq (t := 40) dX16_wire_25 (by decide) (fun c25 => ?_) (fun c25 => ?_)
      · refine w_iconst (v := 1) dX16_wire_40 rfl ?_
        refine w_goto (t := 45) dX16_wire_41 (by decide) ?_
        refine w_op (pc' := 47) (ll' := [_, _, _, _, _, _]) dX16_wire_45 rfl ?_
        refine w_op (pc' := 49) dX16_wire_47 rfl ?_
        refine w_ifeq (t := 75) dX16_wire_49 (by decide) (fun c49 => ?_) (fun c49 => ?_)
        · exact absurd c49 (by decide)
        · refine w_op (pc' := 53) dX16_wire_52 rfl ?_
          refine w_op (pc' := 54) dX16_wire_53 rfl ?_
          refine t_callS (As := [_, _]) dX16_wire_54 rfl rM_X16_isSource (by decide) rfl rfl (by decide) (Nat.le_of_ble_eq_true rfl) (c_X16_isSource ?_)
          show s_w _ _ _ 57 _ _ _ _
          refine w_ifeq (t := 75) dX16_wire_57 (by decide) (fun c57 => ?_) (fun c57 => ?_)
          · refine w_op (pc' := 76) dX16_wire_75 rfl ?_
            refine w_iconst (v := 2) dX16_wire_76 rfl ?_
            refine t_callV (t := T_MODEL) (As := [_]) dX16_wire_77 rfl rM_X16_refuses (by decide) rfl rfl (by decide) (by decide) (Nat.le_of_ble_eq_true rfl) rfl (hp.1 _ rfl) (c_X16_refuses hp ?_)
            show s_w _ _ _ 80 _ _ _ _
            exact w_ireturn dX16_wire_80 ⟨s_rcb (Or.inl rfl), kx2 (of_decide_eq_true (bI_n0.mp c7)) (fun u => by have u2 := u.2.1; rw [bI_0.mp c57] at u2; cases u2)⟩
          · refine w_op (pc' := 61) dX16_wire_60 rfl ?_
            refine w_bipush (v := 33) dX16_wire_61 rfl ?_
            refine w_icmpeq (t := 81) dX16_wire_63 (by decide) (fun c63 => ?_) (fun c63 => ?_)
            · exact l_X16_wire hG hX (of_decide_eq_true (bI_n0.mp c7)) hch ⟨Or.inr (Or.inl c25), bI_n0.mp c57, Or.inl c63⟩ (fun p1 c1 n1 x1 hL1 hn1 => k (of_decide_eq_true (bI_n0.mp c7)) ⟨Or.inr (Or.inl c25), bI_n0.mp c57, Or.inl c63⟩ p1 c1 n1 x1 hL1 hn1)
            · refine w_op (pc' := 68) dX16_wire_66 rfl ?_
              refine w_op (pc' := 69) dX16_wire_68 rfl ?_
              refine t_callS (As := [_, _]) dX16_wire_69 rfl rM_X16_isSource (by decide) rfl rfl (by decide) (Nat.le_of_ble_eq_true rfl) (c_X16_isSource ?_)
              show s_w _ _ _ 72 _ _ _ _
              refine w_ifne (t := 81) dX16_wire_72 (by decide) (fun c72 => ?_) (fun c72 => ?_)
              · exact l_X16_wire hG hX (of_decide_eq_true (bI_n0.mp c7)) hch ⟨Or.inr (Or.inl c25), bI_n0.mp c57, Or.inr (bI_n0.mp c72)⟩ (fun p1 c1 n1 x1 hL1 hn1 => k (of_decide_eq_true (bI_n0.mp c7)) ⟨Or.inr (Or.inl c25), bI_n0.mp c57, Or.inr (bI_n0.mp c72)⟩ p1 c1 n1 x1 hL1 hn1)
              · refine w_op (pc' := 76) dX16_wire_75 rfl ?_
                refine w_iconst (v := 2) dX16_wire_76 rfl ?_
                refine t_callV (t := T_MODEL) (As := [_]) dX16_wire_77 rfl rM_X16_refuses (by decide) rfl rfl (by decide) (by decide) (Nat.le_of_ble_eq_true rfl) rfl (hp.1 _ rfl) (c_X16_refuses hp ?_)
                show s_w _ _ _ 80 _ _ _ _
                exact w_ireturn dX16_wire_80 ⟨s_rcb (Or.inl rfl), kx2 (of_decide_eq_true (bI_n0.mp c7)) (fun u => u.2.2.elim c63 (fun v => by rw [bI_0.mp c72] at v; cases v))⟩
      · refine w_op (pc' := 29) dX16_wire_28 rfl ?_
        refine w_bipush (v := 94) dX16_wire_29 rfl ?_
        refine w_icmpeq (t := 40) dX16_wire_31 (by decide) (fun c31 => ?_) (fun c31 => ?_)
        · refine w_iconst (v := 1) dX16_wire_40 rfl ?_
          refine w_goto (t := 45) dX16_wire_41 (by decide) ?_
          refine w_op (pc' := 47) (ll' := [_, _, _, _, _, _]) dX16_wire_45 rfl ?_
          refine w_op (pc' := 49) dX16_wire_47 rfl ?_
          refine w_ifeq (t := 75) dX16_wire_49 (by decide) (fun c49 => ?_) (fun c49 => ?_)
          · exact absurd c49 (by decide)
          · refine w_op (pc' := 53) dX16_wire_52 rfl ?_
            refine w_op (pc' := 54) dX16_wire_53 rfl ?_
            refine t_callS (As := [_, _]) dX16_wire_54 rfl rM_X16_isSource (by decide) rfl rfl (by decide) (Nat.le_of_ble_eq_true rfl) (c_X16_isSource ?_)
            show s_w _ _ _ 57 _ _ _ _
            refine w_ifeq (t := 75) dX16_wire_57 (by decide) (fun c57 => ?_) (fun c57 => ?_)
            · refine w_op (pc' := 76) dX16_wire_75 rfl ?_
              refine w_iconst (v := 2) dX16_wire_76 rfl ?_
              refine t_callV (t := T_MODEL) (As := [_]) dX16_wire_77 rfl rM_X16_refuses (by decide) rfl rfl (by decide) (by decide) (Nat.le_of_ble_eq_true rfl) rfl (hp.1 _ rfl) (c_X16_refuses hp ?_)
              show s_w _ _ _ 80 _ _ _ _
              exact w_ireturn dX16_wire_80 ⟨s_rcb (Or.inl rfl), kx2 (of_decide_eq_true (bI_n0.mp c7)) (fun u => by have u2 := u.2.1; rw [bI_0.mp c57] at u2; cases u2)⟩
            · refine w_op (pc' := 61) dX16_wire_60 rfl ?_
              refine w_bipush (v := 33) dX16_wire_61 rfl ?_
              refine w_icmpeq (t := 81) dX16_wire_63 (by decide) (fun c63 => ?_) (fun c63 => ?_)
              · exact l_X16_wire hG hX (of_decide_eq_true (bI_n0.mp c7)) hch ⟨Or.inr (Or.inr (Or.inl c31)), bI_n0.mp c57, Or.inl c63⟩ (fun p1 c1 n1 x1 hL1 hn1 => k (of_decide_eq_true (bI_n0.mp c7)) ⟨Or.inr (Or.inr (Or.inl c31)), bI_n0.mp c57, Or.inl c63⟩ p1 c1 n1 x1 hL1 hn1)
              · refine w_op (pc' := 68) dX16_wire_66 rfl ?_
                refine w_op (pc' := 69) dX16_wire_68 rfl ?_
                refine t_callS (As := [_, _]) dX16_wire_69 rfl rM_X16_isSource (by decide) rfl rfl (by decide) (Nat.le_of_ble_eq_true rfl) (c_X16_isSource ?_)
                show s_w _ _ _ 72 _ _ _ _
                refine w_ifne (t := 81) dX16_wire_72 (by decide) (fun c72 => ?_) (fun c72 => ?_)
                · exact l_X16_wire hG hX (of_decide_eq_true (bI_n0.mp c7)) hch ⟨Or.inr (Or.inr (Or.inl c31)), bI_n0.mp c57, Or.inr (bI_n0.mp c72)⟩ (fun p1 c1 n1 x1 hL1 hn1 => k (of_decide_eq_true (bI_n0.mp c7)) ⟨Or.inr (Or.inr (Or.inl c31)), bI_n0.mp c57, Or.inr (bI_n0.mp c72)⟩ p1 c1 n1 x1 hL1 hn1)
                · refine w_op (pc' := 76) dX16_wire_75 rfl ?_
                  refine w_iconst (v := 2) dX16_wire_76 rfl ?_
                  refine t_callV (t := T_MODEL) (As := [_]) dX16_wire_77 rfl rM_X16_refuses (by decide) rfl rfl (by decide) (by decide) (Nat.le_of_ble_eq_true rfl) rfl (hp.1 _ rfl) (c_X16_refuses hp ?_)
                  show s_w _ _ _ 80 _ _ _ _
                  exact w_ireturn dX16_wire_80 ⟨s_rcb (Or.inl rfl), kx2 (of_decide_eq_true (bI_n0.mp c7)) (fun u => u.2.2.elim c63 (fun v => by rw [bI_0.mp c72] at v; cases v))⟩
        · refine w_op (pc' := 35) dX16_wire_34 rfl ?_
          refine w_bipush (v := 33) dX16_wire_35 rfl ?_
          refine w_icmpne (t := 44) dX16_wire_37 (by decide) (fun c37 => ?_) (fun c37 => ?_)
          · refine w_iconst (v := 0) dX16_wire_44 rfl ?_
            refine w_op (pc' := 47) (ll' := [_, _, _, _, _, _]) dX16_wire_45 rfl ?_
            refine w_op (pc' := 49) dX16_wire_47 rfl ?_
            refine w_ifeq (t := 75) dX16_wire_49 (by decide) (fun c49 => ?_) (fun c49 => ?_)
            · refine w_op (pc' := 76) dX16_wire_75 rfl ?_
              refine w_iconst (v := 2) dX16_wire_76 rfl ?_
              refine t_callV (t := T_MODEL) (As := [_]) dX16_wire_77 rfl rM_X16_refuses (by decide) rfl rfl (by decide) (by decide) (Nat.le_of_ble_eq_true rfl) rfl (hp.1 _ rfl) (c_X16_refuses hp ?_)
              show s_w _ _ _ 80 _ _ _ _
              exact w_ireturn dX16_wire_80 ⟨s_rcb (Or.inl rfl), kx2 (of_decide_eq_true (bI_n0.mp c7)) (fun u => u.1.elim c19 (fun u => u.elim c25 (fun u => u.elim c31 c37)))⟩
            · exact absurd c49 (by decide)
          · refine w_iconst (v := 1) dX16_wire_40 rfl ?_
            refine w_goto (t := 45) dX16_wire_41 (by decide) ?_
            refine w_op (pc' := 47) (ll' := [_, _, _, _, _, _]) dX16_wire_45 rfl ?_
            refine w_op (pc' := 49) dX16_wire_47 rfl ?_
            refine w_ifeq (t := 75) dX16_wire_49 (by decide) (fun c49 => ?_) (fun c49 => ?_)
            · exact absurd c49 (by decide)
            · refine w_op (pc' := 53) dX16_wire_52 rfl ?_
              refine w_op (pc' := 54) dX16_wire_53 rfl ?_
              refine t_callS (As := [_, _]) dX16_wire_54 rfl rM_X16_isSource (by decide) rfl rfl (by decide) (Nat.le_of_ble_eq_true rfl) (c_X16_isSource ?_)
              show s_w _ _ _ 57 _ _ _ _
              refine w_ifeq (t := 75) dX16_wire_57 (by decide) (fun c57 => ?_) (fun c57 => ?_)
              · refine w_op (pc' := 76) dX16_wire_75 rfl ?_
                refine w_iconst (v := 2) dX16_wire_76 rfl ?_
                refine t_callV (t := T_MODEL) (As := [_]) dX16_wire_77 rfl rM_X16_refuses (by decide) rfl rfl (by decide) (by decide) (Nat.le_of_ble_eq_true rfl) rfl (hp.1 _ rfl) (c_X16_refuses hp ?_)
                show s_w _ _ _ 80 _ _ _ _
                exact w_ireturn dX16_wire_80 ⟨s_rcb (Or.inl rfl), kx2 (of_decide_eq_true (bI_n0.mp c7)) (fun u => by have u2 := u.2.1; rw [bI_0.mp c57] at u2; cases u2)⟩
              · refine w_op (pc' := 61) dX16_wire_60 rfl ?_
                refine w_bipush (v := 33) dX16_wire_61 rfl ?_
                refine w_icmpeq (t := 81) dX16_wire_63 (by decide) (fun c63 => ?_) (fun c63 => ?_)
                · exact l_X16_wire hG hX (of_decide_eq_true (bI_n0.mp c7)) hch ⟨Or.inr (Or.inr (Or.inr c37)), bI_n0.mp c57, Or.inl c63⟩ (fun p1 c1 n1 x1 hL1 hn1 => k (of_decide_eq_true (bI_n0.mp c7)) ⟨Or.inr (Or.inr (Or.inr c37)), bI_n0.mp c57, Or.inl c63⟩ p1 c1 n1 x1 hL1 hn1)
                · refine w_op (pc' := 68) dX16_wire_66 rfl ?_
                  refine w_op (pc' := 69) dX16_wire_68 rfl ?_
                  refine t_callS (As := [_, _]) dX16_wire_69 rfl rM_X16_isSource (by decide) rfl rfl (by decide) (Nat.le_of_ble_eq_true rfl) (c_X16_isSource ?_)
                  show s_w _ _ _ 72 _ _ _ _
                  refine w_ifne (t := 81) dX16_wire_72 (by decide) (fun c72 => ?_) (fun c72 => ?_)
                  · exact l_X16_wire hG hX (of_decide_eq_true (bI_n0.mp c7)) hch ⟨Or.inr (Or.inr (Or.inr c37)), bI_n0.mp c57, Or.inr (bI_n0.mp c72)⟩ (fun p1 c1 n1 x1 hL1 hn1 => k (of_decide_eq_true (bI_n0.mp c7)) ⟨Or.inr (Or.inr (Or.inr c37)), bI_n0.mp c57, Or.inr (bI_n0.mp c72)⟩ p1 c1 n1 x1 hL1 hn1)
                  · refine w_op (pc' := 76) dX16_wire_75 rfl ?_
                    refine w_iconst (v := 2) dX16_wire_76 rfl ?_
                    refine t_callV (t := T_MODEL) (As := [_]) dX16_wire_77 rfl rM_X16_refuses (by decide) rfl rfl (by decide) (by decide) (Nat.le_of_ble_eq_true rfl) rfl (hp.1 _ rfl) (c_X16_refuses hp ?_)
                    show s_w _ _ _ 80 _ _ _ _
                    exact w_ireturn dX16_wire_80 ⟨s_rcb (Or.inl rfl), kx2 (of_decide_eq_true (bI_n0.mp c7)) (fun u => u.2.2.elim c63 (fun v => by rw [bI_0.mp c72] at v; cases v))⟩
  · refine w_op (pc' := 11) dX16_wire_10 rfl ?_
    refine w_iconst (v := 1) dX16_wire_11 rfl ?_
    refine t_callV (t := T_MODEL) (As := [_]) dX16_wire_12 rfl rM_X16_refuses (by decide) rfl rfl (by decide) (by decide) (Nat.le_of_ble_eq_true rfl) rfl (hp.1 _ rfl) (c_X16_refuses hp ?_)
    show s_w _ _ _ 15 _ _ _ _
    exact w_ireturn dX16_wire_15 ⟨s_rcb (Or.inl rfl), kx (of_decide_eq_false (bI_0.mp c7))⟩

def q_ar (I : e_I) (k m : Nat) (y z t v : Int32) : e_I := s_up (s_up (s_up (s_up (s_up I f_mk_ranks (k * 4 + m) y) f_mk_offsets (k * 4 + m) z) f_mk_froms (k * 4 + m) t) f_mk_tos (k * 4 + m) v) f_mk_rows k (nI m + 1)
set_option maxRecDepth 100000 in
set_option maxHeartbeats 800000 in
theorem c_X16_row {X : e_XT} {d : Nat} {p : e_Sp} {I : e_I} {J : e_Jt} {c : Nat × Nat} {w : e_Rw1} {Q : e_Rt → e_SS → Prop} {nk nr np a b n : Nat} (hG : q_G p I c nk nr np a b n) (hX : (X 8).1 = 0) {x y z t v : Int32} (k : ∀ kk m, kk < nk → m < 4 → I f_mk_rows kk = nI m → x = nI kk → (0 ≤ y ∧ y < nI nr) → ((-36 ≤ z ∧ z ≤ 60) ∧ (0 ≤ t ∧ t ≤ 60) ∧ (t ≤ v ∧ v ≤ 60)) → I f_mk_kind kk = 115 → ∀ p' c' n', q_X p p' → q_L p' (q_st nk nr np ((q_ar I kk m y z t v), J)).1 c' a b n' → n' ≤ n + np → Q (.inl (some (.int (nI m + 1)))) (p', q_an (q_st nk nr np ((q_ar I kk m y z t v), J)).1, (q_st nk nr np ((q_ar I kk m y z t v), J)).2, c', w)) (kx : ¬ ((0 ≤ x ∧ x < nI nk) ∧ (0 ≤ y ∧ y < nI nr)) → Q (.inl (some (.int 0))) (p, q_fl I 1, J, c, w)) (kx2 : ((0 ≤ x ∧ x < nI nk) ∧ (0 ≤ y ∧ y < nI nr)) → ¬ ((-36 ≤ z ∧ z ≤ 60) ∧ (0 ≤ t ∧ t ≤ 60) ∧ (t ≤ v ∧ v ≤ 60)) → Q (.inl (some (.int 0))) (p, q_fl I 2, J, c, w)) (kx3 : ∀ kk, kk < nk → x = nI kk → (0 ≤ y ∧ y < nI nr) → ((-36 ≤ z ∧ z ≤ 60) ∧ (0 ≤ t ∧ t ≤ 60) ∧ (t ≤ v ∧ v ≤ 60)) → ¬ I f_mk_kind kk = 115 → Q (.inl (some (.int 0))) (p, q_fl I 3, J, c, w)) (kx4 : ∀ kk, kk < nk → x = nI kk → (0 ≤ y ∧ y < nI nr) → ((-36 ≤ z ∧ z ≤ 60) ∧ (0 ≤ t ∧ t ≤ 60) ∧ (t ≤ v ∧ v ≤ 60)) → I f_mk_kind kk = 115 → I f_mk_rows kk = 4 → Q (.inl (some (.int 0))) (p, q_fl I 4, J, c, w)) : s_c X (d + 10) 242 [.ref (p.1 T_MODEL 0), .int x, .int y, .int z, .int t, .int v] (p, I, J, c, w) Q := by
  have hM := hG.1
  have hp := hM.1
  have hk40 := hM.2.1
  have hr10 := hM.2.2.1
  have hnp := hM.2.2.2.1
  refine m_X16_row (Nat.le_of_ble_eq_true rfl) ?_
  show s_w _ _ _ 0 _ _ _ _
  refine w_op (pc' := 1) dX16_row_0 rfl ?_
  refine w_op (pc' := 2) dX16_row_1 rfl ?_
  refine t_callV (t := T_MODEL) (As := [_]) dX16_row_2 rfl rM_X16_isKnob (by decide) rfl rfl (by decide) (by decide) (Nat.le_of_ble_eq_true rfl) rfl (hp.1 _ rfl) (c_X16_isKnob hM ?_)
  show s_w _ _ _ 5 _ _ _ _
  refine w_ifeq (t := 16) dX16_row_5 (by decide) (fun c5 => ?_) (fun c5 => ?_)
  · refine w_op (pc' := 17) dX16_row_16 rfl ?_
    refine w_iconst (v := 1) dX16_row_17 rfl ?_
    refine t_callV (t := T_MODEL) (As := [_]) dX16_row_18 rfl rM_X16_fails (by decide) rfl rfl (by decide) (by decide) (Nat.le_of_ble_eq_true rfl) rfl (hp.1 _ rfl) (c_X16_fails hp ?_)
    show s_w _ _ _ 21 _ _ _ _
    exact w_ireturn dX16_row_21 ⟨rfl, kx (fun u => (of_decide_eq_false (bI_0.mp c5)) u.1)⟩
  · refine w_op (pc' := 9) dX16_row_8 rfl ?_
    refine w_op (pc' := 10) dX16_row_9 rfl ?_
    refine t_callV (t := T_MODEL) (As := [_]) dX16_row_10 rfl rM_X16_isRank (by decide) rfl rfl (by decide) (by decide) (Nat.le_of_ble_eq_true rfl) rfl (hp.1 _ rfl) (c_X16_isRank hM ?_)
    show s_w _ _ _ 13 _ _ _ _
    refine w_ifne (t := 22) dX16_row_13 (by decide) (fun c13 => ?_) (fun c13 => ?_)
    · refine w_op (pc' := 23) dX16_row_22 rfl ?_
      refine w_bipush (v := (-36)) dX16_row_23 rfl ?_
      refine w_bipush (v := 60) dX16_row_25 rfl ?_
      refine t_callS (As := [_, _, _]) dX16_row_27 rfl rM_X16_in (by decide) rfl rfl (by decide) (Nat.le_of_ble_eq_true rfl) (c_X16_in ?_)
      show s_w _ _ _ 30 _ _ _ _
      refine w_ifeq (t := 56) dX16_row_30 (by decide) (fun c30 => ?_) (fun c30 => ?_)
      · refine w_op (pc' := 57) dX16_row_56 rfl ?_
        refine w_iconst (v := 2) dX16_row_57 rfl ?_
        refine t_callV (t := T_MODEL) (As := [_]) dX16_row_58 rfl rM_X16_fails (by decide) rfl rfl (by decide) (by decide) (Nat.le_of_ble_eq_true rfl) rfl (hp.1 _ rfl) (c_X16_fails hp ?_)
        show s_w _ _ _ 61 _ _ _ _
        exact w_ireturn dX16_row_61 ⟨rfl, kx2 ⟨(of_decide_eq_true (bI_n0.mp c5)), (of_decide_eq_true (bI_n0.mp c13))⟩ (fun u => (of_decide_eq_false (bI_0.mp c30)) u.1)⟩
      · refine w_op (pc' := 35) dX16_row_33 rfl ?_
        refine w_iconst (v := 0) dX16_row_35 rfl ?_
        refine w_bipush (v := 60) dX16_row_36 rfl ?_
        refine t_callS (As := [_, _, _]) dX16_row_38 rfl rM_X16_in (by decide) rfl rfl (by decide) (Nat.le_of_ble_eq_true rfl) (c_X16_in ?_)
        show s_w _ _ _ 41 _ _ _ _
        refine w_ifeq (t := 56) dX16_row_41 (by decide) (fun c41 => ?_) (fun c41 => ?_)
        · refine w_op (pc' := 57) dX16_row_56 rfl ?_
          refine w_iconst (v := 2) dX16_row_57 rfl ?_
          refine t_callV (t := T_MODEL) (As := [_]) dX16_row_58 rfl rM_X16_fails (by decide) rfl rfl (by decide) (by decide) (Nat.le_of_ble_eq_true rfl) rfl (hp.1 _ rfl) (c_X16_fails hp ?_)
          show s_w _ _ _ 61 _ _ _ _
          exact w_ireturn dX16_row_61 ⟨rfl, kx2 ⟨(of_decide_eq_true (bI_n0.mp c5)), (of_decide_eq_true (bI_n0.mp c13))⟩ (fun u => (of_decide_eq_false (bI_0.mp c41)) u.2.1)⟩
        · refine w_op (pc' := 46) dX16_row_44 rfl ?_
          refine w_op (pc' := 48) dX16_row_46 rfl ?_
          refine w_bipush (v := 60) dX16_row_48 rfl ?_
          refine t_callS (As := [_, _, _]) dX16_row_50 rfl rM_X16_in (by decide) rfl rfl (by decide) (Nat.le_of_ble_eq_true rfl) (c_X16_in ?_)
          show s_w _ _ _ 53 _ _ _ _
          refine w_ifne (t := 62) dX16_row_53 (by decide) (fun c53 => ?_) (fun c53 => ?_)
          · have hx := of_decide_eq_true (bI_n0.mp c5)
            obtain ⟨kk, hk, rfl⟩ := s_nat hx.1 hx.2 (by omega)
            have hK := hM.2.2.2.2.1 kk hk
            have hv := hK.1
            refine w_op (pc' := 63) dX16_row_62 rfl ?_
            refine w_op (pc' := 64) dX16_row_63 rfl ?_
            refine t_callV (t := T_MODEL) (As := [_]) dX16_row_64 rfl rM_X16_isStop (by decide) rfl rfl (by decide) (by decide) (Nat.le_of_ble_eq_true rfl) rfl (hp.1 _ rfl) (c_X16_isStop hM hk ?_)
            show s_w _ _ _ 67 _ _ _ _
            refine w_ifne (t := 76) dX16_row_67 (by decide) (fun c67 => ?_) (fun c67 => ?_)
            · refine w_op (pc' := 77) dX16_row_76 rfl ?_
              refine t_getG0 (G := g_m_list1) dX16_row_77 rfl rfl (by decide) rfl (fun _ => rfl) (hp.1 _ rfl) ?_
              refine w_op (pc' := 81) dX16_row_80 rfl ?_
              refine t_callV (t := T_LIST) (As := [_]) dX16_row_81 rfl rM_Jx4a65c_get_915e3 (by decide) rfl rfl (by decide) (by decide) (Nat.le_of_ble_eq_true rfl) rfl (hp.2 _ (by decide)) (c_get3 hp hk40.2 (by omega) hk ?_)
              show s_w _ _ _ 84 _ _ _ _
              refine t_chk dX16_row_84 rfl rfl (by decide) hK.1 ?_
              refine w_op (pc' := 89) (ll' := [_, _, _, _, _, _, _]) dX16_row_87 rfl ?_
              refine w_op (pc' := 91) dX16_row_89 rfl ?_
              refine t_getI (F := f_mk_rows) dX16_row_91 rfl rfl (by decide) rfl ⟨rfl, fun _ => rfl⟩ hK.1 ?_
              refine w_iconst (v := 4) dX16_row_94 rfl ?_
              refine w_icmpne (t := 104) dX16_row_95 (by decide) (fun c95 => ?_) (fun c95 => ?_)
              · obtain ⟨m, hm4, erow⟩ := hK.2.2.2.1
                have hm9 : m < 4 := by have : ¬ m = 4 := fun u => c95 (by rw [erow, u]; rfl); omega
                refine w_op (pc' := 106) dX16_row_104 rfl ?_
                refine t_getG1 (G := g_mk_ranks) dX16_row_106 rfl rfl (by decide) rfl (fun _ => rfl) hK.1 ?_
                refine w_op (pc' := 111) dX16_row_109 rfl ?_
                refine t_getI (F := f_mk_rows) dX16_row_111 rfl rfl (by decide) rfl ⟨rfl, fun _ => rfl⟩ hK.1 ?_
                rw [show I f_mk_rows kk = nI m from erow]
                refine w_op (pc' := 115) dX16_row_114 rfl ?_
                refine t_iast (F := f_mk_ranks) dX16_row_115 rfl (by decide) (by decide) rfl (hK.2.1 _ (by decide)) (s_ix.nI (N := 4) hm9 (by decide)) hm9 ?_
                refine w_op (pc' := 118) dX16_row_116 rfl ?_
                refine t_getG1 (G := g_mk_offsets) dX16_row_118 rfl rfl (by decide) rfl (fun _ => rfl) hK.1 ?_
                refine w_op (pc' := 123) dX16_row_121 rfl ?_
                refine t_getI (F := f_mk_rows) dX16_row_123 rfl rfl (by decide) rfl ⟨rfl, fun _ => rfl⟩ hK.1 ?_
                rw [show (s_up I f_mk_ranks (kk * 4 + m) y) f_mk_rows kk = nI m from ((s_up_n (by decide)).trans erow)]
                refine w_op (pc' := 127) dX16_row_126 rfl ?_
                refine t_iast (F := f_mk_offsets) dX16_row_127 rfl (by decide) (by decide) rfl (hK.2.1 _ (by decide)) (s_ix.nI (N := 4) hm9 (by decide)) hm9 ?_
                refine w_op (pc' := 130) dX16_row_128 rfl ?_
                refine t_getG1 (G := g_mk_froms) dX16_row_130 rfl rfl (by decide) rfl (fun _ => rfl) hK.1 ?_
                refine w_op (pc' := 135) dX16_row_133 rfl ?_
                refine t_getI (F := f_mk_rows) dX16_row_135 rfl rfl (by decide) rfl ⟨rfl, fun _ => rfl⟩ hK.1 ?_
                rw [show (s_up (s_up I f_mk_ranks (kk * 4 + m) y) f_mk_offsets (kk * 4 + m) z) f_mk_rows kk = nI m from ((s_up_n (by decide)).trans ((s_up_n (by decide)).trans erow))]
                refine w_op (pc' := 140) dX16_row_138 rfl ?_
                refine t_iast (F := f_mk_froms) dX16_row_140 rfl (by decide) (by decide) rfl (hK.2.1 _ (by decide)) (s_ix.nI (N := 4) hm9 (by decide)) hm9 ?_
                refine w_op (pc' := 143) dX16_row_141 rfl ?_
                refine t_getG1 (G := g_mk_tos) dX16_row_143 rfl rfl (by decide) rfl (fun _ => rfl) hK.1 ?_
                refine w_op (pc' := 148) dX16_row_146 rfl ?_
                refine t_getI (F := f_mk_rows) dX16_row_148 rfl rfl (by decide) rfl ⟨rfl, fun _ => rfl⟩ hK.1 ?_
                rw [show (s_up (s_up (s_up I f_mk_ranks (kk * 4 + m) y) f_mk_offsets (kk * 4 + m) z) f_mk_froms (kk * 4 + m) t) f_mk_rows kk = nI m from ((s_up_n (by decide)).trans ((s_up_n (by decide)).trans ((s_up_n (by decide)).trans erow)))]
                refine w_op (pc' := 153) dX16_row_151 rfl ?_
                refine t_iast (F := f_mk_tos) dX16_row_153 rfl (by decide) (by decide) rfl (hK.2.1 _ (by decide)) (s_ix.nI (N := 4) hm9 (by decide)) hm9 ?_
                refine w_op (pc' := 156) dX16_row_154 rfl ?_
                refine w_op (pc' := 157) dX16_row_156 rfl ?_
                refine t_getI (F := f_mk_rows) dX16_row_157 rfl rfl (by decide) rfl ⟨rfl, fun _ => rfl⟩ hK.1 ?_
                rw [show (s_up (s_up (s_up (s_up I f_mk_ranks (kk * 4 + m) y) f_mk_offsets (kk * 4 + m) z) f_mk_froms (kk * 4 + m) t) f_mk_tos (kk * 4 + m) v) f_mk_rows kk = nI m from ((s_up_n (by decide)).trans ((s_up_n (by decide)).trans ((s_up_n (by decide)).trans ((s_up_n (by decide)).trans erow))))]
                refine w_iconst (v := 1) dX16_row_160 rfl ?_
                refine w_op (pc' := 162) dX16_row_161 rfl ?_
                refine t_putI (F := f_mk_rows) dX16_row_162 rfl rfl (by decide) (by decide) rfl rfl (Or.inl rfl) hK.1 ?_
                refine w_op (pc' := 166) dX16_row_165 rfl ?_
                refine w_op (pc' := 168) dX16_row_166 rfl ?_
                refine t_getI (F := f_mk_rows) dX16_row_168 rfl rfl (by decide) rfl ⟨rfl, fun _ => rfl⟩ hK.1 ?_
                rw [s_up_s]
                refine t_callV (t := T_MODEL) (As := [_]) dX16_row_171 rfl rM_X16_settled (by decide) rfl rfl (by decide) (by decide) (Nat.le_of_ble_eq_true rfl) rfl (hp.1 _ rfl) (c_X16_settled (((((hG.up (by decide)).up (by decide)).up (by decide)).up (by decide)).upK (fun _ => ⟨m + 1, by omega, nI_1 m⟩) (fun u => absurd u (by decide)) (Or.inl rfl)) hX (fun p1 c1 n1 x1 hL1 hn1 => ?_))
                show s_w _ _ _ 174 _ _ _ _
                exact w_ireturn dX16_row_174 ⟨rfl, k kk m hk hm9 erow rfl ((of_decide_eq_true (bI_n0.mp c13))) ⟨(of_decide_eq_true (bI_n0.mp c30)), (of_decide_eq_true (bI_n0.mp c41)), (of_decide_eq_true (bI_n0.mp c53))⟩ (of_decide_eq_true (bI_n0.mp c67)) p1 c1 n1 x1 hL1 hn1⟩
              · refine w_op (pc' := 99) dX16_row_98 rfl ?_
                refine w_iconst (v := 4) dX16_row_99 rfl ?_
                refine t_callV (t := T_MODEL) (As := [_]) dX16_row_100 rfl rM_X16_fails (by decide) rfl rfl (by decide) (by decide) (Nat.le_of_ble_eq_true rfl) rfl (hp.1 _ rfl) (c_X16_fails hp ?_)
                show s_w _ _ _ 103 _ _ _ _
                exact w_ireturn dX16_row_103 ⟨rfl, kx4 kk hk rfl ((of_decide_eq_true (bI_n0.mp c13))) ⟨(of_decide_eq_true (bI_n0.mp c30)), (of_decide_eq_true (bI_n0.mp c41)), (of_decide_eq_true (bI_n0.mp c53))⟩ (of_decide_eq_true (bI_n0.mp c67)) c95⟩
            · refine w_op (pc' := 71) dX16_row_70 rfl ?_
              refine w_iconst (v := 3) dX16_row_71 rfl ?_
              refine t_callV (t := T_MODEL) (As := [_]) dX16_row_72 rfl rM_X16_fails (by decide) rfl rfl (by decide) (by decide) (Nat.le_of_ble_eq_true rfl) rfl (hp.1 _ rfl) (c_X16_fails hp ?_)
              show s_w _ _ _ 75 _ _ _ _
              exact w_ireturn dX16_row_75 ⟨rfl, kx3 kk hk rfl ((of_decide_eq_true (bI_n0.mp c13))) ⟨(of_decide_eq_true (bI_n0.mp c30)), (of_decide_eq_true (bI_n0.mp c41)), (of_decide_eq_true (bI_n0.mp c53))⟩ (of_decide_eq_false (bI_0.mp c67))⟩
          · refine w_op (pc' := 57) dX16_row_56 rfl ?_
            refine w_iconst (v := 2) dX16_row_57 rfl ?_
            refine t_callV (t := T_MODEL) (As := [_]) dX16_row_58 rfl rM_X16_fails (by decide) rfl rfl (by decide) (by decide) (Nat.le_of_ble_eq_true rfl) rfl (hp.1 _ rfl) (c_X16_fails hp ?_)
            show s_w _ _ _ 61 _ _ _ _
            exact w_ireturn dX16_row_61 ⟨rfl, kx2 ⟨(of_decide_eq_true (bI_n0.mp c5)), (of_decide_eq_true (bI_n0.mp c13))⟩ (fun u => (of_decide_eq_false (bI_0.mp c53)) u.2.2)⟩
    · refine w_op (pc' := 17) dX16_row_16 rfl ?_
      refine w_iconst (v := 1) dX16_row_17 rfl ?_
      refine t_callV (t := T_MODEL) (As := [_]) dX16_row_18 rfl rM_X16_fails (by decide) rfl rfl (by decide) (by decide) (Nat.le_of_ble_eq_true rfl) rfl (hp.1 _ rfl) (c_X16_fails hp ?_)
      show s_w _ _ _ 21 _ _ _ _
      exact w_ireturn dX16_row_21 ⟨rfl, kx (fun u => (of_decide_eq_false (bI_0.mp c13)) u.2)⟩

