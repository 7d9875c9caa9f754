/-! 66: public calls, a second part (printed by wip/whole/p66.py) -/
def s_us (x : Int64) (n : Int32) : Int64 := (x.toUInt64 >>> (n.toInt64.toUInt64 &&& Int64.toUInt64 63)).toInt64
def s_bc1 (x : Int64) : Int64 := x - (s_us x 1 &&& 6148914691236517205)
def s_bc2 (x : Int64) : Int64 := (x &&& 3689348814741910323) + (s_us x 2 &&& 3689348814741910323)
def s_bc3 (x : Int64) : Int64 := (x + s_us x 4) &&& 1085102592571150095
def s_bc4 (x : Int64) (n : Int32) : Int64 := x + s_us x n
def s_bc (x : Int64) : Int32 := (s_bc4 (s_bc4 (s_bc4 (s_bc3 (s_bc2 (s_bc1 x))) 8) 16) 32).toInt32 &&& 127
def s_r8 (x : Int32) : Int32 := x - x / 8 * 8
theorem s_fig_lt (x : Int32) : s_fig x < 6 := by
  unfold s_fig
  repeat' split
  all_goals decide
theorem s_eqC.cpI {I : e_I} {F0 F1 m : Nat} (h : (decide (F1 ≠ f_l_size) && !s_cs.contains F1) = true) : s_eqC I (s_cpI I F0 F1 m) := by
  rw [Bool.and_eq_true] at h
  obtain ⟨h1, h2⟩ := h
  have h1 := of_decide_eq_true h1
  refine ⟨fun l hl => if_neg (fun z => h1 z.1.symm), fun F hF i => if_neg (fun z => ?_)⟩
  rw [← z.1, List.contains_iff_mem.mpr hF] at h2
  cases h2
theorem s_eqT.cpI {I : e_I} {F0 F1 m : Nat} (h : (decide (F1 ≠ f_tsize) && decide (F1 ≠ f_entries)) = true) : s_eqT I (s_cpI I F0 F1 m) := by
  rw [Bool.and_eq_true] at h
  exact ⟨if_neg (fun z => of_decide_eq_true h.1 z.1.symm), fun i => if_neg (fun z => of_decide_eq_true h.2 z.1.symm)⟩
theorem s_eqC.runI {f : Nat → e_I → e_I} (h : ∀ i I, s_eqC I (f i I)) (n i : Nat) (I : e_I) : s_eqC I (s_run f i n I) := s_eqC.run h n i I
theorem s_eqT.runI {f : Nat → e_I → e_I} (h : ∀ i I, s_eqT I (f i I)) (n i : Nat) (I : e_I) : s_eqT I (s_run f i n I) := s_eqT.run h n i I
theorem s_eqC.wgB {I : e_I} {x y z : Int32} : s_eqC I (s_wgB (s_wgT I x y z) x y z) := by
  have h : s_eqC I (s_wgT I x y z) := ((s_eqC.up (by decide)).trans (s_eqC.up (by decide))).trans (s_eqC.up (by decide))
  unfold s_wgB
  split
  · exact h.trans (((s_eqC.up (by decide)).trans (s_eqC.up (by decide))).trans (s_eqC.cpI (by decide)))
  · exact h
theorem s_eqT.wgB {I : e_I} {x y z : Int32} : s_eqT I (s_wgB (s_wgT I x y z) x y z) := by
  have h : s_eqT I (s_wgT I x y z) := ((s_eqT.up (by decide)).trans (s_eqT.up (by decide))).trans (s_eqT.up (by decide))
  unfold s_wgB
  split
  · exact h.trans (((s_eqT.up (by decide)).trans (s_eqT.up (by decide))).trans (s_eqT.cpI (by decide)))
  · exact h
theorem s_eqC.cho {X : e_XT} {I : e_I} {g : Nat} {b : Int32} : s_eqC I (s_cho X I g b) := by
  have h0 : s_eqC I (s_ch0 I b) := ((s_eqC.up (by decide)).trans (s_eqC.up (by decide))).trans (s_eqC.up (by decide))
  have hW : ∀ dg u v t I, s_eqC I (s_chW X dg g u v t I) := fun dg u v t I => by
    unfold s_chW
    split
    · exact s_eqC.wgB
    · exact s_eqC.rfl'
  have hV : ∀ dg u n v I, s_eqC I (s_chV X dg g u n v I) := fun dg u n v I => by
    unfold s_chV
    split
    · exact s_eqC.run (hW dg u v) _ _ _
    · exact s_eqC.rfl'
  have hU : ∀ dg u I, s_eqC I (s_chU X dg g u I) := fun dg u I => by
    unfold s_chU
    split
    · exact s_eqC.run (hV dg u _) _ _ _
    · exact s_eqC.rfl'
  have h1 : s_eqC I (s_ch1 X I g b) := h0.trans (s_eqC.run (hU _) _ _ _)
  exact (h1.trans (s_eqC.cpI (by decide))).trans (s_eqC.up (by decide))
theorem s_eqT.cho {X : e_XT} {I : e_I} {g : Nat} {b : Int32} : s_eqT I (s_cho X I g b) := by
  have h0 : s_eqT I (s_ch0 I b) := ((s_eqT.up (by decide)).trans (s_eqT.up (by decide))).trans (s_eqT.up (by decide))
  have hW : ∀ dg u v t I, s_eqT I (s_chW X dg g u v t I) := fun dg u v t I => by
    unfold s_chW
    split
    · exact s_eqT.wgB
    · exact s_eqT.rfl'
  have hV : ∀ dg u n v I, s_eqT I (s_chV X dg g u n v I) := fun dg u n v I => by
    unfold s_chV
    split
    · exact s_eqT.run (hW dg u v) _ _ _
    · exact s_eqT.rfl'
  have hU : ∀ dg u I, s_eqT I (s_chU X dg g u I) := fun dg u I => by
    unfold s_chU
    split
    · exact s_eqT.run (hV dg u _) _ _ _
    · exact s_eqT.rfl'
  have h1 : s_eqT I (s_ch1 X I g b) := h0.trans (s_eqT.run (hU _) _ _ _)
  exact (h1.trans (s_eqT.cpI (by decide))).trans (s_eqT.up (by decide))
theorem s_eqC.mt {nk : Nat} {y z : Int64} {I : e_I} : s_eqC I (s_mt nk y z I).1 := s_run_ind (α := e_I × Int32) (P := fun a b => s_eqC a.1 b.1) (fun _ => s_eqC.rfl') (fun {x y z} (u : s_eqC x.1 y.1) (v : s_eqC y.1 z.1) => u.trans v) s_eqC.mtK _ _ _
theorem s_eqT.mt {nk : Nat} {y z : Int64} {I : e_I} : s_eqT I (s_mt nk y z I).1 := s_run_ind (α := e_I × Int32) (P := fun a b => s_eqT a.1 b.1) (fun _ => s_eqT.rfl') (fun {x y z} (u : s_eqT x.1 y.1) (v : s_eqT y.1 z.1) => u.trans v) (fun i a => by
    unfold s_mtK
    split
    · exact s_eqT.up (by decide)
    · exact s_eqT.rfl') _ _ _
theorem s_eqC.pw {I : e_I} {x ch y z : Int32} : s_eqC I (s_pw I x ch y z) := by
  unfold s_pw
  split
  · exact ((s_eqC.up (by decide)).trans (s_eqC.up (by decide))).trans (s_eqC.up (by decide))
  · exact s_eqC.rfl'
theorem s_eqT.pw {I : e_I} {x ch y z : Int32} : s_eqT I (s_pw I x ch y z) := by
  unfold s_pw
  split
  · exact ((s_eqT.up (by decide)).trans (s_eqT.up (by decide))).trans (s_eqT.up (by decide))
  · exact s_eqT.rfl'
theorem s_eqC.chp {I : e_I} {k : Nat} {x y : Int32} : s_eqC I (s_chp I k x y) := by
  have h : ∀ I x y, s_eqC I (s_pp I k x y) := fun I x y => by
    unfold s_pp
    split
    · exact (s_eqC.up (by decide)).trans (s_eqC.up (by decide))
    · exact s_eqC.rfl'
  exact (h _ _ _).trans (h _ _ _)
theorem s_eqT.chp {I : e_I} {k : Nat} {x y : Int32} : s_eqT I (s_chp I k x y) := by
  have h : ∀ I x y, s_eqT I (s_pp I k x y) := fun I x y => by
    unfold s_pp
    split
    · exact (s_eqT.up (by decide)).trans (s_eqT.up (by decide))
    · exact s_eqT.rfl'
  exact (h _ _ _).trans (h _ _ _)
theorem s_eqT.addr {I : e_I} {k : Nat} {x y z t : Int32} : s_eqT I (s_addr I k x y z t) := ((((s_eqT.up (by decide)).trans (s_eqT.up (by decide))).trans (s_eqT.up (by decide))).trans (s_eqT.up (by decide))).trans (s_eqT.up (by decide))
/-- a row more -/
theorem s_D.addr {p : e_Sp} {I : e_I} {nk nr k : Nat} {x y z t : Int32} (h : s_D p I nk nr) (hr : 0 ≤ I f_s_rows k) (hr4 : I f_s_rows k < 4) : s_D p (s_addr I k x y z t) nk nr := by
  have e : ∀ F, F ≠ f_s_rows → F ≠ f_s_ranks → F ≠ f_s_offsets → F ≠ f_s_firsts → F ≠ f_s_lasts → ∀ i, s_addr I k x y z t F i = I F i := fun F h1 h2 h3 h4 h5 i => by
    unfold s_addr
    rw [s_up_F h1, s_up_F h5, s_up_F h4, s_up_F h3, s_up_F h2]
  have e1 : ∀ j, ∃ m, m ≤ 4 ∧ (j = k ∨ I f_s_rows j = nI m) → True := fun j => ⟨0, fun _ => trivial⟩
  obtain ⟨⟨a1, ⟨a2, a3⟩, ⟨a4, a5⟩, a6, a7⟩, b, c, d⟩ := h
  refine ⟨⟨a1, ⟨a2, by rw [e _ (by decide) (by decide) (by decide) (by decide) (by decide)]; exact a3⟩, ⟨a4, by rw [e _ (by decide) (by decide) (by decide) (by decide) (by decide)]; exact a5⟩, fun j hj => ?_, a7⟩, fun r hr => ?_, c, fun j hj hk => ?_⟩
  · rw [e f_k_kind (by decide) (by decide) (by decide) (by decide) (by decide), e f_k_division (by decide) (by decide) (by decide) (by decide) (by decide)]
    exact a6 j hj
  · have := b r hr
    unfold s_Rk at this ⊢
    rw [e f_r_lowest (by decide) (by decide) (by decide) (by decide) (by decide), e f_r_division (by decide) (by decide) (by decide) (by decide) (by decide)]
    exact this
  · rw [e f_k_kind (by decide) (by decide) (by decide) (by decide) (by decide)] at hk
    obtain ⟨d1, m, hm, d2⟩ := d j hj hk
    refine ⟨d1, ?_⟩
    by_cases z9 : j = k
    · subst z9
      rw [d2] at hr4
      have hm4 := (nI_ltI (b := 4) (by omega) (by omega)).mp hr4
      refine ⟨m + 1, by omega, ?_⟩
      unfold s_addr
      rw [s_up_s, d2, nI_1]
    · refine ⟨m, hm, ?_⟩
      unfold s_addr
      rw [s_up_i z9, s_up_F (by decide), s_up_F (by decide), s_up_F (by decide), s_up_F (by decide), d2]
theorem s_Me.fc {I : e_I} {g m : Nat} (h : s_Me I) (hm : m ≤ 20) : s_Me (s_up I f_a_frameCounts g (nI m)) := by
  obtain ⟨h1, h2, h3⟩ := h
  refine ⟨by rw [s_up_F (by decide)]; exact h1, by rw [s_up_F (by decide)]; exact h2, fun j hj => ?_⟩
  by_cases z : j = g
  · subst z; exact ⟨m, hm, s_up_s⟩
  · rw [s_up_i z]; exact h3 j hj
set_option maxRecDepth 100000 in
set_option maxHeartbeats 4000000 in
theorem c_bitCount {X : e_XT} {d : Nat} {p : e_Sp} {I : e_I} {J : e_Jt} {c : Nat × Nat} {w : e_Rw1} {Q : e_Rt → e_SS → Prop} {x : Int64} (k : Q (.inl (some (.int (s_bc x)))) (p, I, J, c, w)) : s_c X (d + 0) 389 [.long x] (p, I, J, c, w) Q := by
  refine m_J13_bitCount_95d88 (Nat.le_of_ble_eq_true rfl) ?_
  show s_w _ _ _ 0 _ _ _ _
  refine w_op (pc' := 1) dJ13_bitCount_95d88_0 rfl ?_
  refine w_op (pc' := 2) dJ13_bitCount_95d88_1 rfl ?_
  refine w_iconst (v := 1) dJ13_bitCount_95d88_2 rfl ?_
  refine w_op (pc' := 4) dJ13_bitCount_95d88_3 rfl ?_
  refine w_ldcj dJ13_bitCount_95d88_4 rfl ?_
  refine w_op (pc' := 8) dJ13_bitCount_95d88_7 rfl ?_
  refine w_op (pc' := 9) dJ13_bitCount_95d88_8 rfl ?_
  refine w_op (pc' := 10) (ll' := [_, _]) dJ13_bitCount_95d88_9 rfl ?_
  refine w_op (pc' := 11) dJ13_bitCount_95d88_10 rfl ?_
  refine w_ldcj dJ13_bitCount_95d88_11 rfl ?_
  refine w_op (pc' := 15) dJ13_bitCount_95d88_14 rfl ?_
  refine w_op (pc' := 16) dJ13_bitCount_95d88_15 rfl ?_
  refine w_iconst (v := 2) dJ13_bitCount_95d88_16 rfl ?_
  refine w_op (pc' := 18) dJ13_bitCount_95d88_17 rfl ?_
  refine w_ldcj dJ13_bitCount_95d88_18 rfl ?_
  refine w_op (pc' := 22) dJ13_bitCount_95d88_21 rfl ?_
  refine w_op (pc' := 23) dJ13_bitCount_95d88_22 rfl ?_
  refine w_op (pc' := 24) (ll' := [_, _]) dJ13_bitCount_95d88_23 rfl ?_
  refine w_op (pc' := 25) dJ13_bitCount_95d88_24 rfl ?_
  refine w_op (pc' := 26) dJ13_bitCount_95d88_25 rfl ?_
  refine w_iconst (v := 4) dJ13_bitCount_95d88_26 rfl ?_
  refine w_op (pc' := 28) dJ13_bitCount_95d88_27 rfl ?_
  refine w_op (pc' := 29) dJ13_bitCount_95d88_28 rfl ?_
  refine w_ldcj dJ13_bitCount_95d88_29 rfl ?_
  refine w_op (pc' := 33) dJ13_bitCount_95d88_32 rfl ?_
  refine w_op (pc' := 34) (ll' := [_, _]) dJ13_bitCount_95d88_33 rfl ?_
  refine w_op (pc' := 35) dJ13_bitCount_95d88_34 rfl ?_
  refine w_op (pc' := 36) dJ13_bitCount_95d88_35 rfl ?_
  refine w_bipush (v := 8) dJ13_bitCount_95d88_36 rfl ?_
  refine w_op (pc' := 39) dJ13_bitCount_95d88_38 rfl ?_
  refine w_op (pc' := 40) dJ13_bitCount_95d88_39 rfl ?_
  refine w_op (pc' := 41) (ll' := [_, _]) dJ13_bitCount_95d88_40 rfl ?_
  refine w_op (pc' := 42) dJ13_bitCount_95d88_41 rfl ?_
  refine w_op (pc' := 43) dJ13_bitCount_95d88_42 rfl ?_
  refine w_bipush (v := 16) dJ13_bitCount_95d88_43 rfl ?_
  refine w_op (pc' := 46) dJ13_bitCount_95d88_45 rfl ?_
  refine w_op (pc' := 47) dJ13_bitCount_95d88_46 rfl ?_
  refine w_op (pc' := 48) (ll' := [_, _]) dJ13_bitCount_95d88_47 rfl ?_
  refine w_op (pc' := 49) dJ13_bitCount_95d88_48 rfl ?_
  refine w_op (pc' := 50) dJ13_bitCount_95d88_49 rfl ?_
  refine w_bipush (v := 32) dJ13_bitCount_95d88_50 rfl ?_
  refine w_op (pc' := 53) dJ13_bitCount_95d88_52 rfl ?_
  refine w_op (pc' := 54) dJ13_bitCount_95d88_53 rfl ?_
  refine w_op (pc' := 55) (ll' := [_, _]) dJ13_bitCount_95d88_54 rfl ?_
  refine w_op (pc' := 56) dJ13_bitCount_95d88_55 rfl ?_
  refine w_op (pc' := 57) dJ13_bitCount_95d88_56 rfl ?_
  refine w_bipush (v := 127) dJ13_bitCount_95d88_57 rfl ?_
  refine w_op (pc' := 60) dJ13_bitCount_95d88_59 rfl ?_
  exact w_ireturn dJ13_bitCount_95d88_60 ⟨rfl, k⟩
set_option maxRecDepth 100000 in
set_option maxHeartbeats 4000000 in
theorem c_X11_row {X : e_XT} {d : Nat} {p : e_Sp} {I : e_I} {J : e_Jt} {c : Nat × Nat} {w : e_Rw1} {Q : e_Rt → e_SS → Prop} {nk nr : Nat} (hD : s_D p I nk nr) {a b : Nat} (hT : s_Tp p I c a b) {x y z f t : Int32} (k : ∀ j, j < nk → x = nI j → ∀ r, r < nr → y = nI r → -36 ≤ z ∧ z ≤ 60 → 0 ≤ f ∧ f ≤ 60 → f ≤ t ∧ t ≤ 60 → I f_k_kind j = 115 → 0 ≤ I f_s_rows j → I f_s_rows j < 4 → ∀ p' c', s_D p' (s_stl p nk nr (s_addr I j y z f t, J)).1 nk nr → s_xt p p' → s_Tp p' (s_stl p nk nr (s_addr I j y z f t, J)).1 c' a b → Q (.inl (some (.int ((s_stl p nk nr ((s_addr I j y z f t), J)).1 f_s_rows j)))) (p', (s_stl p nk nr (s_addr I j y z f t, J)).1, (s_stl p nk nr (s_addr I j y z f t, J)).2, c', w)) (kx : (x < 0 ∨ nI nk ≤ x) → Q (.inr 2) (p, I, J, (c.1 + 1, c.2 + 6), w)) (kx2 : ∀ j, j < nk → x = nI j → (y < 0 ∨ nI nr ≤ y) → Q (.inr 2) (p, I, J, (c.1 + 1, c.2 + 6), w)) (ka : ∀ j, j < nk → x = nI j → ∀ r, r < nr → y = nI r → ¬ (-36 ≤ z ∧ z ≤ 60) → Q (.inr 0) (p, I, J, (c.1 + 1, c.2 + 6), w)) (kb : ∀ j, j < nk → x = nI j → ∀ r, r < nr → y = nI r → -36 ≤ z ∧ z ≤ 60 → ¬ (0 ≤ f ∧ f ≤ 60) → Q (.inr 0) (p, I, J, (c.1 + 1, c.2 + 6), w)) (kc : ∀ j, j < nk → x = nI j → ∀ r, r < nr → y = nI r → -36 ≤ z ∧ z ≤ 60 → 0 ≤ f ∧ f ≤ 60 → ¬ (f ≤ t ∧ t ≤ 60) → Q (.inr 0) (p, I, J, (c.1 + 1, c.2 + 6), w)) (kd : ∀ j, j < nk → x = nI j → ∀ r, r < nr → y = nI r → -36 ≤ z ∧ z ≤ 60 → 0 ≤ f ∧ f ≤ 60 → f ≤ t ∧ t ≤ 60 → ¬ I f_k_kind j = 115 → Q (.inr 3) (p, I, J, (c.1 + 1, c.2 + 6), w)) (ke : ∀ j, j < nk → x = nI j → ∀ r, r < nr → y = nI r → -36 ≤ z ∧ z ≤ 60 → 0 ≤ f ∧ f ≤ 60 → f ≤ t ∧ t ≤ 60 → I f_k_kind j = 115 → (I f_s_rows j < 0 ∨ 4 ≤ I f_s_rows j) → Q (.inr 1) (p, I, J, (c.1 + 1, c.2 + 6), w)) : s_c X (d + 7) 149 [.ref (p.1 T_HALL 0), .int x, .int y, .int z, .int f, .int t] (p, I, J, c, w) Q := by
  have hC := hD.1
  have hp := hC.1
  refine m_X11_row (Nat.le_of_ble_eq_true rfl) ?_
  show s_w _ _ _ 0 _ _ _ _
  refine w_op (pc' := 1) dX11_row_0 rfl ?_
  refine w_op (pc' := 2) dX11_row_1 rfl ?_
  refine t_callV (t := T_HALL) (As := [_]) dX11_row_2 rfl rM_X11_needKnob (by decide) rfl rfl (by decide) (by decide) (Nat.le_of_ble_eq_true rfl) rfl (hp.1 _ rfl) (c_X11_needKnob hC (fun j hj hx hv => ?_) (fun hx => ?_))
  · show s_w _ _ _ 5 _ _ _ _
    refine w_op (pc' := 7) (ll' := [_, _, _, _, _, _, _, _]) dX11_row_5 rfl ?_
    refine w_op (pc' := 8) dX11_row_7 rfl ?_
    refine w_op (pc' := 9) dX11_row_8 rfl ?_
    refine t_callV (t := T_HALL) (As := [_]) dX11_row_9 rfl rM_X11_needRank (by decide) rfl rfl (by decide) (by decide) (Nat.le_of_ble_eq_true rfl) rfl (hp.1 _ rfl) (c_X11_needRank hD (fun r hr hxr hR => ?_) (fun hx2 => ?_))
    · show s_w _ _ _ 12 _ _ _ _
      refine w_op (pc' := 13) dX11_row_12 rfl ?_
      refine w_op (pc' := 14) dX11_row_13 rfl ?_
      refine w_bipush (v := (-36)) dX11_row_14 rfl ?_
      refine w_bipush (v := 60) dX11_row_16 rfl ?_
      refine t_callS (As := [_, _, _]) dX11_row_18 rfl rM_X11_needRange (by decide) rfl rfl (by decide) (Nat.le_of_ble_eq_true rfl) (c_X11_needRange (fun h1 => ?_) (fun h1 => ?_))
      · show s_w _ _ _ 21 _ _ _ _
        refine w_op (pc' := 23) dX11_row_21 rfl ?_
        refine w_iconst (v := 0) dX11_row_23 rfl ?_
        refine w_bipush (v := 60) dX11_row_24 rfl ?_
        refine t_callS (As := [_, _, _]) dX11_row_26 rfl rM_X11_needRange (by decide) rfl rfl (by decide) (Nat.le_of_ble_eq_true rfl) (c_X11_needRange (fun h2 => ?_) (fun h2 => ?_))
        · show s_w _ _ _ 29 _ _ _ _
          refine w_op (pc' := 31) dX11_row_29 rfl ?_
          refine w_op (pc' := 33) dX11_row_31 rfl ?_
          refine w_bipush (v := 60) dX11_row_33 rfl ?_
          refine t_callS (As := [_, _, _]) dX11_row_35 rfl rM_X11_needRange (by decide) rfl rfl (by decide) (Nat.le_of_ble_eq_true rfl) (c_X11_needRange (fun h3 => ?_) (fun h3 => ?_))
          · show s_w _ _ _ 38 _ _ _ _
            refine w_op (pc' := 40) dX11_row_38 rfl ?_
            refine t_callS (As := [_]) dX11_row_40 rfl rM_X11_needStop (by decide) rfl rfl (by decide) (Nat.le_of_ble_eq_true rfl) (c_X11_needStop hv (fun hs => ?_) (fun hs => ?_))
            · show s_w _ _ _ 43 _ _ _ _
              have hk := (hC.2.2.2.1 j hj).2.1.mp hs
              refine w_op (pc' := 45) (ll' := [_, _, _, _, _, _, _, _]) dX11_row_43 rfl ?_
              refine w_op (pc' := 47) dX11_row_45 rfl ?_
              refine w_op (pc' := 48) dX11_row_47 rfl ?_
              refine w_op (pc' := 49) dX11_row_48 rfl ?_
              refine w_op (pc' := 51) dX11_row_49 rfl ?_
              refine w_op (pc' := 53) dX11_row_51 rfl ?_
              refine t_callV (t := T_STOP) (As := [_, _, _, _]) dX11_row_53 rfl rM_X8_addRow (by decide) rfl rfl (by decide) (by decide) (Nat.le_of_ble_eq_true rfl) rfl (by assumption) (c_X8_addRow hs (hD.2.2.2 j hj hk).1 (fun h4 => ?_) (fun h4 h5 => ?_))
              · show s_w _ _ _ 56 _ _ _ _
                refine w_ifne (t := 69) dX11_row_56 (by decide) (fun c56 => ?_) (fun c56 => ?_)
                · exact absurd c56 (by decide)
                · exact w_thr1 (is := 125) (sp := 1028) (tx := "the stop has 4 rows") (by decide) rfl rfl (by simp) dX11_row_59 dX11_row_62 (Or.inl ⟨dX11_row_63, dX11_row_65, dX11_row_68⟩) ⟨rfl, ke j hj hx r hr hxr h1 h2 h3 hk h4⟩
              · show s_w _ _ _ 56 _ _ _ _
                refine w_ifne (t := 69) dX11_row_56 (by decide) (fun c56 => ?_) (fun c56 => ?_)
                · refine w_op (pc' := 70) dX11_row_69 rfl ?_
                  refine t_getG0 (G := g_h_WORKS) dX11_row_70 rfl rfl (by decide) rfl (fun _ => rfl) (hp.1 _ rfl) ?_
                  refine t_callV (t := T_WORKS) (As := []) dX11_row_73 rfl rM_X10_settle (by decide) rfl rfl (by decide) (by decide) (Nat.le_of_ble_eq_true rfl) rfl (hp.1 _ rfl) (c_X10_settle (hD.addr h4 h5) (hT.eq s_eqT.addr) (fun p1 c1 hD1 hx1 hT1 => ?_))
                  show s_w _ _ _ 76 _ _ _ _
                  rw [show p.1 T_HALL = p1.1 T_HALL from (hx1.1 T_HALL rfl).1.symm, show p.1 T_STOP = p1.1 T_STOP from (hx1.1 T_STOP rfl).1.symm]
                  have hp := hD1.1.1
                  have hs1 := hx1.2.1 _ _ hs
                  refine w_op (pc' := 78) dX11_row_76 rfl ?_
                  refine t_getI (F := f_s_rows) dX11_row_78 rfl rfl (by decide) rfl ⟨rfl, fun _ => rfl⟩ (by assumption) ?_
                  exact w_ireturn dX11_row_81 ⟨rfl, k j hj hx r hr hxr h1 h2 h3 hk h4 h5 p1 c1 hD1 hx1 hT1⟩
                · exact absurd c56 (by decide)
            · exact ⟨rfl, rfl, kd j hj hx r hr hxr h1 h2 h3 (fun z9 => hs ((hC.2.2.2.1 j hj).2.1.mpr z9))⟩
          · exact ⟨rfl, rfl, kc j hj hx r hr hxr h1 h2 h3⟩
        · exact ⟨rfl, rfl, kb j hj hx r hr hxr h1 h2⟩
      · exact ⟨rfl, rfl, ka j hj hx r hr hxr h1⟩
    · exact ⟨rfl, rfl, kx2 j hj hx hx2⟩
  · exact ⟨rfl, rfl, kx hx⟩
set_option maxRecDepth 100000 in
set_option maxHeartbeats 4000000 in
theorem c_X11_cross {X : e_XT} {d : Nat} {p : e_Sp} {I : e_I} {J : e_Jt} {c : Nat × Nat} {w : e_Rw1} {Q : e_Rt → e_SS → Prop} {nk nr : Nat} (hD : s_D p I nk nr) {a b : Nat} (hT : s_Tp p I c a b) {x y z : Int32} (k : ∀ j, j < nk → x = nI j → 0 ≤ y ∧ y ≤ 60 → 0 ≤ z ∧ z ≤ 60 → ¬ y = z → I f_k_kind j = 115 → ∀ p' c', s_D p' (s_stl p nk nr (s_chp I j y z, J)).1 nk nr → s_xt p p' → s_Tp p' (s_stl p nk nr (s_chp I j y z, J)).1 c' a b → Q (.inl (some (.int (nI (s_dsp (s_stl p nk nr (s_chp I j y z, J)).1 j))))) (p', (s_stl p nk nr (s_chp I j y z, J)).1, (s_stl p nk nr (s_chp I j y z, J)).2, c', w)) (kx : (x < 0 ∨ nI nk ≤ x) → Q (.inr 2) (p, I, J, (c.1 + 1, c.2 + 6), w)) (ka : ∀ j, j < nk → x = nI j → ¬ (0 ≤ y ∧ y ≤ 60) → Q (.inr 0) (p, I, J, (c.1 + 1, c.2 + 6), w)) (kb : ∀ j, j < nk → x = nI j → 0 ≤ y ∧ y ≤ 60 → ¬ (0 ≤ z ∧ z ≤ 60) → Q (.inr 0) (p, I, J, (c.1 + 1, c.2 + 6), w)) (kc : ∀ j, j < nk → x = nI j → 0 ≤ y ∧ y ≤ 60 → 0 ≤ z ∧ z ≤ 60 → y = z → Q (.inr 0) (p, I, J, (c.1 + 1, c.2 + 6), w)) (kd : ∀ j, j < nk → x = nI j → 0 ≤ y ∧ y ≤ 60 → 0 ≤ z ∧ z ≤ 60 → ¬ y = z → ¬ I f_k_kind j = 115 → Q (.inr 3) (p, I, J, (c.1 + 1, c.2 + 6), w)) : s_c X (d + 7) 153 [.ref (p.1 T_HALL 0), .int x, .int y, .int z] (p, I, J, c, w) Q := by
  have hC := hD.1
  have hp := hC.1
  refine m_X11_cross (Nat.le_of_ble_eq_true rfl) ?_
  show s_w _ _ _ 0 _ _ _ _
  refine w_op (pc' := 1) dX11_cross_0 rfl ?_
  refine w_op (pc' := 2) dX11_cross_1 rfl ?_
  refine t_callV (t := T_HALL) (As := [_]) dX11_cross_2 rfl rM_X11_needKnob (by decide) rfl rfl (by decide) (by decide) (Nat.le_of_ble_eq_true rfl) rfl (hp.1 _ rfl) (c_X11_needKnob hC (fun j hj hx hv => ?_) (fun hx => ?_))
  · show s_w _ _ _ 5 _ _ _ _
    refine w_op (pc' := 7) (ll' := [_, _, _, _, _, _]) dX11_cross_5 rfl ?_
    refine w_op (pc' := 8) dX11_cross_7 rfl ?_
    refine w_iconst (v := 0) dX11_cross_8 rfl ?_
    refine w_bipush (v := 60) dX11_cross_9 rfl ?_
    refine t_callS (As := [_, _, _]) dX11_cross_11 rfl rM_X11_needRange (by decide) rfl rfl (by decide) (Nat.le_of_ble_eq_true rfl) (c_X11_needRange (fun h1 => ?_) (fun h1 => ?_))
    · show s_w _ _ _ 14 _ _ _ _
      refine w_op (pc' := 15) dX11_cross_14 rfl ?_
      refine w_iconst (v := 0) dX11_cross_15 rfl ?_
      refine w_bipush (v := 60) dX11_cross_16 rfl ?_
      refine t_callS (As := [_, _, _]) dX11_cross_18 rfl rM_X11_needRange (by decide) rfl rfl (by decide) (Nat.le_of_ble_eq_true rfl) (c_X11_needRange (fun h2 => ?_) (fun h2 => ?_))
      · show s_w _ _ _ 21 _ _ _ _
        refine w_op (pc' := 22) dX11_cross_21 rfl ?_
        refine w_op (pc' := 23) dX11_cross_22 rfl ?_
        refine w_icmpne (t := 36) dX11_cross_23 (by decide) (fun c23 => ?_) (fun c23 => ?_)
        · refine w_op (pc' := 38) dX11_cross_36 rfl ?_
          refine t_callS (As := [_]) dX11_cross_38 rfl rM_X11_needStop (by decide) rfl rfl (by decide) (Nat.le_of_ble_eq_true rfl) (c_X11_needStop hv (fun hs => ?_) (fun hs => ?_))
          · show s_w _ _ _ 41 _ _ _ _
            have hk := (hC.2.2.2.1 j hj).2.1.mp hs
            have hA := (hD.2.2.2 j hj hk).1
            refine w_op (pc' := 43) (ll' := [_, _, _, _, _, _]) dX11_cross_41 rfl ?_
            refine w_op (pc' := 45) dX11_cross_43 rfl ?_
            refine w_op (pc' := 46) dX11_cross_45 rfl ?_
            refine w_op (pc' := 47) dX11_cross_46 rfl ?_
            refine t_callV (t := T_STOP) (As := [_, _]) dX11_cross_47 rfl rM_X8_changePlaces (by decide) rfl rfl (by decide) (by decide) (Nat.le_of_ble_eq_true rfl) rfl (by assumption) (c_X8_changePlaces hs hA ?_)
            show s_w _ _ _ 50 _ _ _ _
            refine w_op (pc' := 51) dX11_cross_50 rfl ?_
            refine t_getG0 (G := g_h_WORKS) dX11_cross_51 rfl rfl (by decide) rfl (fun _ => rfl) (hp.1 _ rfl) ?_
            refine t_callV (t := T_WORKS) (As := []) dX11_cross_54 rfl rM_X10_settle (by decide) rfl rfl (by decide) (by decide) (Nat.le_of_ble_eq_true rfl) rfl (hp.1 _ rfl) (c_X10_settle (hD.eq s_eqC.chp) (hT.eq s_eqT.chp) (fun p1 c1 hD1 hx1 hT1 => ?_))
            show s_w _ _ _ 57 _ _ _ _
            rw [show p.1 T_HALL = p1.1 T_HALL from (hx1.1 T_HALL rfl).1.symm, show p.1 T_STOP = p1.1 T_STOP from (hx1.1 T_STOP rfl).1.symm]
            have hp := hD1.1.1
            have hs1 := hx1.2.1 _ _ hs
            refine w_op (pc' := 59) dX11_cross_57 rfl ?_
            refine t_callV (t := T_STOP) (As := []) dX11_cross_59 rfl rM_X8_displaced (by decide) rfl rfl (by decide) (by decide) (Nat.le_of_ble_eq_true rfl) rfl (by assumption) (c_X8_displaced hs1 (fun t ht => hx1.2.1 _ _ (hA t ht)) ?_)
            show s_w _ _ _ 62 _ _ _ _
            exact w_ireturn dX11_cross_62 ⟨rfl, k j hj hx h1 h2 c23 hk p1 c1 hD1 hx1 hT1⟩
          · exact ⟨rfl, rfl, kd j hj hx h1 h2 c23 (fun z9 => hs ((hC.2.2.2.1 j hj).2.1.mpr z9))⟩
        · exact w_thr0 (is := 132) (sp := 1743) (tx := "both keys are the same") (by decide) rfl rfl (by simp) dX11_cross_26 dX11_cross_29 (Or.inl ⟨dX11_cross_30, dX11_cross_32, dX11_cross_35⟩) ⟨rfl, kc j hj hx h1 h2 c23⟩
      · exact ⟨rfl, rfl, kb j hj hx h1 h2⟩
    · exact ⟨rfl, rfl, ka j hj hx h1⟩
  · exact ⟨rfl, rfl, kx hx⟩
set_option maxRecDepth 100000 in
set_option maxHeartbeats 4000000 in
theorem c_X11_moveKnobs {X : e_XT} {d : Nat} {p : e_Sp} {I : e_I} {J : e_Jt} {c : Nat × Nat} {w : e_Rw1} {Q : e_Rt → e_SS → Prop} {nk nr : Nat} (hD : s_D p I nk nr) {a b : Nat} (hT : s_Tp p I c a b) {y z : Int64} (k : ∀ p' c', s_D p' (s_stl p nk nr ((s_mt nk y z I).1, J)).1 nk nr → s_xt p p' → s_Tp p' (s_stl p nk nr ((s_mt nk y z I).1, J)).1 c' a b → Q (.inl (some (.int (s_mt nk y z I).2))) (p', (s_stl p nk nr ((s_mt nk y z I).1, J)).1, (s_stl p nk nr ((s_mt nk y z I).1, J)).2, c', w)) : s_c X (d + 7) 140 [.ref (p.1 T_HALL 0), .long y, .long z] (p, I, J, c, w) Q := by
  have hC := hD.1
  have hp := hC.1
  refine m_X11_moveKnobs (Nat.le_of_ble_eq_true rfl) ?_
  show s_w _ _ _ 0 _ _ _ _
  refine w_op (pc' := 1) dX11_moveKnobs_0 rfl ?_
  refine t_getG0 (G := g_h_CONS) dX11_moveKnobs_1 rfl rfl (by decide) rfl (fun _ => rfl) (hp.1 _ rfl) ?_
  refine w_op (pc' := 5) dX11_moveKnobs_4 rfl ?_
  refine w_op (pc' := 6) dX11_moveKnobs_5 rfl ?_
  refine t_callV (t := T_CONS) (As := [_, _]) dX11_moveKnobs_6 rfl rM_X0_moveTo (by decide) rfl rfl (by decide) (by decide) (Nat.le_of_ble_eq_true rfl) rfl (hp.1 _ rfl) (c_X0_moveTo hC ?_)
  show s_w _ _ _ 9 _ _ _ _
  refine w_op (pc' := 11) (ll' := [_, _, _, _, _, _]) dX11_moveKnobs_9 rfl ?_
  refine w_op (pc' := 12) dX11_moveKnobs_11 rfl ?_
  refine t_getG0 (G := g_h_WORKS) dX11_moveKnobs_12 rfl rfl (by decide) rfl (fun _ => rfl) (hp.1 _ rfl) ?_
  refine t_callV (t := T_WORKS) (As := []) dX11_moveKnobs_15 rfl rM_X10_settle (by decide) rfl rfl (by decide) (by decide) (Nat.le_of_ble_eq_true rfl) rfl (hp.1 _ rfl) (c_X10_settle (hD.eq s_eqC.mt) (hT.eq s_eqT.mt) (fun p1 c1 hD1 hx1 hT1 => ?_))
  show s_w _ _ _ 18 _ _ _ _
  refine w_op (pc' := 20) dX11_moveKnobs_18 rfl ?_
  exact w_ireturn dX11_moveKnobs_20 ⟨rfl, k p1 c1 hD1 hx1 hT1⟩
def s_kset (I : e_I) (nk : Nat) (x : Int32) : Int64 := if 0 ≤ x then s_sof I nk x else s_ks I nk
set_option maxRecDepth 100000 in
set_option maxHeartbeats 4000000 in
theorem c_X11_set {X : e_XT} {d : Nat} {p : e_Sp} {I : e_I} {J : e_Jt} {c : Nat × Nat} {w : e_Rw1} {Q : e_Rt → e_SS → Prop} {nk nr : Nat} (hC : s_C p I nk nr) (hM : s_Me I) {x y : Int32} (k : ¬ s_plo x y < 0 → s_clo I = false → Q (.inl (some (.int (s_bc (s_da I nk (s_kset I nk x)))))) (p, s_kpI I (s_plo x y), s_kpJ I J (s_plo x y) (s_kset I nk x) (s_da I nk (s_kset I nk x)), c, w)) (kx : s_plo x y < 0 → Q (.inr 2) (p, I, J, (c.1 + 1, c.2 + 6), w)) (kx3 : ¬ s_plo x y < 0 → s_clo I = true → Q (.inr 3) (p, I, J, (c.1 + 1, c.2 + 6), w)) : s_c X (d + 4) 187 [.ref (p.1 T_HALL 0), .int x, .int y] (p, I, J, c, w) Q := by
  have hp := hC.1
  refine m_X11_set (Nat.le_of_ble_eq_true rfl) ?_
  show s_w _ _ _ 0 _ _ _ _
  refine w_op (pc' := 1) dX11_set_0 rfl ?_
  refine w_op (pc' := 2) dX11_set_1 rfl ?_
  refine t_callS (As := [_, _]) dX11_set_2 rfl rM_X11_needPiston (by decide) rfl rfl (by decide) (Nat.le_of_ble_eq_true rfl) (c_X11_needPiston (fun hq => ?_) (fun hq => ?_))
  · show s_w _ _ _ 5 _ _ _ _
    refine w_op (pc' := 6) (ll' := [_, _, _, _, _, _, _, _]) dX11_set_5 rfl ?_
    refine w_op (pc' := 7) dX11_set_6 rfl ?_
    refine t_callV (t := T_HALL) (As := []) dX11_set_7 rfl rM_X11_needOwnLevel (by decide) rfl rfl (by decide) (by decide) (Nat.le_of_ble_eq_true rfl) rfl (hp.1 _ rfl) (c_X11_needOwnLevel hp hM (fun hl => ?_) (fun hl => ?_))
    · show s_w _ _ _ 10 _ _ _ _
      refine w_op (pc' := 11) dX11_set_10 rfl ?_
      refine w_ifge (t := 24) dX11_set_11 (by decide) (fun c11 => ?_) (fun c11 => ?_)
      · refine w_op (pc' := 25) dX11_set_24 rfl ?_
        refine t_getG0 (G := g_h_CONS) dX11_set_25 rfl rfl (by decide) rfl (fun _ => rfl) (hp.1 _ rfl) ?_
        refine w_op (pc' := 29) dX11_set_28 rfl ?_
        refine t_callV (t := T_CONS) (As := [_]) dX11_set_29 rfl rM_X0_stopsOf (by decide) rfl rfl (by decide) (by decide) (Nat.le_of_ble_eq_true rfl) rfl (hp.1 _ rfl) (c_X0_stopsOf hC ?_)
        show s_w _ _ _ 32 _ _ _ _
        rw [show s_sof I nk x = s_kset I nk x from (if_pos c11).symm]
        refine w_op (pc' := 34) (ll' := [_, _, _, _, _, _, _, _]) dX11_set_32 rfl ?_
        refine w_op (pc' := 35) dX11_set_34 rfl ?_
        refine t_getG0 (G := g_h_CONS) dX11_set_35 rfl rfl (by decide) rfl (fun _ => rfl) (hp.1 _ rfl) ?_
        refine w_op (pc' := 40) dX11_set_38 rfl ?_
        refine t_callV (t := T_CONS) (As := [_]) dX11_set_40 rfl rM_X0_drawnAmong (by decide) rfl rfl (by decide) (by decide) (Nat.le_of_ble_eq_true rfl) rfl (hp.1 _ rfl) (c_X0_drawnAmong hC ?_)
        show s_w _ _ _ 43 _ _ _ _
        refine w_op (pc' := 45) (ll' := [_, _, _, _, _, _, _, _]) dX11_set_43 rfl ?_
        refine w_op (pc' := 46) dX11_set_45 rfl ?_
        refine t_getG0 (G := g_h_MEM) dX11_set_46 rfl rfl (by decide) rfl (fun _ => rfl) (hp.1 _ rfl) ?_
        refine w_op (pc' := 50) dX11_set_49 rfl ?_
        refine w_op (pc' := 52) dX11_set_50 rfl ?_
        refine w_op (pc' := 54) dX11_set_52 rfl ?_
        refine t_callV (t := T_MEM) (As := [_, _, _]) dX11_set_54 rfl rM_X5_keep (by decide) rfl rfl (by decide) (by decide) (Nat.le_of_ble_eq_true rfl) rfl (hp.1 _ rfl) (c_X5_keep hp hM ?_)
        show s_w _ _ _ 57 _ _ _ _
        refine w_op (pc' := 59) dX11_set_57 rfl ?_
        refine t_callS (As := [_]) dX11_set_59 rfl rM_J13_bitCount_95d88 (by decide) rfl rfl (by decide) (Nat.le_of_ble_eq_true rfl) (c_bitCount ?_)
        show s_w _ _ _ 62 _ _ _ _
        exact w_ireturn dX11_set_62 ⟨rfl, k hq hl⟩
      · refine w_op (pc' := 15) dX11_set_14 rfl ?_
        refine t_getG0 (G := g_h_CONS) dX11_set_15 rfl rfl (by decide) rfl (fun _ => rfl) (hp.1 _ rfl) ?_
        refine t_callV (t := T_CONS) (As := []) dX11_set_18 rfl rM_X0_knobsInScope (by decide) rfl rfl (by decide) (by decide) (Nat.le_of_ble_eq_true rfl) rfl (hp.1 _ rfl) (c_X0_knobsInScope hC ?_)
        show s_w _ _ _ 21 _ _ _ _
        rw [show s_ks I nk = s_kset I nk x from (if_neg c11).symm]
        refine w_goto (t := 32) dX11_set_21 (by decide) ?_
        refine w_op (pc' := 34) (ll' := [_, _, _, _, _, _, _, _]) dX11_set_32 rfl ?_
        refine w_op (pc' := 35) dX11_set_34 rfl ?_
        refine t_getG0 (G := g_h_CONS) dX11_set_35 rfl rfl (by decide) rfl (fun _ => rfl) (hp.1 _ rfl) ?_
        refine w_op (pc' := 40) dX11_set_38 rfl ?_
        refine t_callV (t := T_CONS) (As := [_]) dX11_set_40 rfl rM_X0_drawnAmong (by decide) rfl rfl (by decide) (by decide) (Nat.le_of_ble_eq_true rfl) rfl (hp.1 _ rfl) (c_X0_drawnAmong hC ?_)
        show s_w _ _ _ 43 _ _ _ _
        refine w_op (pc' := 45) (ll' := [_, _, _, _, _, _, _, _]) dX11_set_43 rfl ?_
        refine w_op (pc' := 46) dX11_set_45 rfl ?_
        refine t_getG0 (G := g_h_MEM) dX11_set_46 rfl rfl (by decide) rfl (fun _ => rfl) (hp.1 _ rfl) ?_
        refine w_op (pc' := 50) dX11_set_49 rfl ?_
        refine w_op (pc' := 52) dX11_set_50 rfl ?_
        refine w_op (pc' := 54) dX11_set_52 rfl ?_
        refine t_callV (t := T_MEM) (As := [_, _, _]) dX11_set_54 rfl rM_X5_keep (by decide) rfl rfl (by decide) (by decide) (Nat.le_of_ble_eq_true rfl) rfl (hp.1 _ rfl) (c_X5_keep hp hM ?_)
        show s_w _ _ _ 57 _ _ _ _
        refine w_op (pc' := 59) dX11_set_57 rfl ?_
        refine t_callS (As := [_]) dX11_set_59 rfl rM_J13_bitCount_95d88 (by decide) rfl rfl (by decide) (Nat.le_of_ble_eq_true rfl) (c_bitCount ?_)
        show s_w _ _ _ 62 _ _ _ _
        exact w_ireturn dX11_set_62 ⟨rfl, k hq hl⟩
    · exact ⟨rfl, rfl, kx3 hq hl⟩
  · exact ⟨rfl, rfl, kx hq⟩
set_option maxRecDepth 100000 in
set_option maxHeartbeats 4000000 in
theorem c_X11_setReversible {X : e_XT} {d : Nat} {p : e_Sp} {I : e_I} {J : e_Jt} {c : Nat × Nat} {w : e_Rw1} {Q : e_Rt → e_SS → Prop} {nk nr : Nat} (hC : s_C p I nk nr) (hM : s_Me I) {x y : Int32} (k : 0 ≤ x ∧ x < 4 → ∀ j, j < nk → y = nI j → s_clo I = false → Q (.inl (some (.int (s_rvk I x)))) (p, s_krv I x y, J, c, w)) (kx : ¬ (0 ≤ x ∧ x < 4) → Q (.inr 2) (p, I, J, (c.1 + 1, c.2 + 6), w)) (kx2 : 0 ≤ x ∧ x < 4 → (y < 0 ∨ nI nk ≤ y) → Q (.inr 2) (p, I, J, (c.1 + 1, c.2 + 6), w)) (kx3 : 0 ≤ x ∧ x < 4 → ∀ j, j < nk → y = nI j → s_clo I = true → Q (.inr 3) (p, I, J, (c.1 + 1, c.2 + 6), w)) : s_c X (d + 5) 190 [.ref (p.1 T_HALL 0), .int x, .int y] (p, I, J, c, w) Q := by
  have hp := hC.1
  refine m_X11_setReversible (Nat.le_of_ble_eq_true rfl) ?_
  show s_w _ _ _ 0 _ _ _ _
  refine w_op (pc' := 1) dX11_setReversible_0 rfl ?_
  refine t_callS (As := [_]) dX11_setReversible_1 rfl rM_X11_needReversible (by decide) rfl rfl (by decide) (Nat.le_of_ble_eq_true rfl) (c_X11_needReversible (fun hq => ?_) (fun hq => ?_))
  · show s_w _ _ _ 4 _ _ _ _
    refine w_op (pc' := 5) dX11_setReversible_4 rfl ?_
    refine w_op (pc' := 6) dX11_setReversible_5 rfl ?_
    refine t_callV (t := T_HALL) (As := [_]) dX11_setReversible_6 rfl rM_X11_needKnob (by decide) rfl rfl (by decide) (by decide) (Nat.le_of_ble_eq_true rfl) rfl (hp.1 _ rfl) (c_X11_needKnob hC (fun j hj hx hv => ?_) (fun hx => ?_))
    · show s_w _ _ _ 9 _ _ _ _
      refine w_op (pc' := 10) dX11_setReversible_9 rfl ?_
      refine w_op (pc' := 11) dX11_setReversible_10 rfl ?_
      refine t_callV (t := T_HALL) (As := []) dX11_setReversible_11 rfl rM_X11_needOwnLevel (by decide) rfl rfl (by decide) (by decide) (Nat.le_of_ble_eq_true rfl) rfl (hp.1 _ rfl) (c_X11_needOwnLevel hp hM (fun hl => ?_) (fun hl => ?_))
      · show s_w _ _ _ 14 _ _ _ _
        refine w_op (pc' := 15) dX11_setReversible_14 rfl ?_
        refine t_getG0 (G := g_h_MEM) dX11_setReversible_15 rfl rfl (by decide) rfl (fun _ => rfl) (hp.1 _ rfl) ?_
        refine w_op (pc' := 19) dX11_setReversible_18 rfl ?_
        refine t_callV (t := T_MEM) (As := [_]) dX11_setReversible_19 rfl rM_X5_reversibleKnob (by decide) rfl rfl (by decide) (by decide) (Nat.le_of_ble_eq_true rfl) rfl (hp.1 _ rfl) (c_X5_reversibleKnob hp hM ?_)
        show s_w _ _ _ 22 _ _ _ _
        refine w_op (pc' := 23) (ll' := [_, _, _, _]) dX11_setReversible_22 rfl ?_
        refine w_op (pc' := 24) dX11_setReversible_23 rfl ?_
        refine t_getG0 (G := g_h_MEM) dX11_setReversible_24 rfl rfl (by decide) rfl (fun _ => rfl) (hp.1 _ rfl) ?_
        refine w_op (pc' := 28) dX11_setReversible_27 rfl ?_
        refine w_op (pc' := 29) dX11_setReversible_28 rfl ?_
        refine t_callV (t := T_MEM) (As := [_, _]) dX11_setReversible_29 rfl rM_X5_keepReversible (by decide) rfl rfl (by decide) (by decide) (Nat.le_of_ble_eq_true rfl) rfl (hp.1 _ rfl) (c_X5_keepReversible hp hM ?_)
        show s_w _ _ _ 32 _ _ _ _
        refine w_op (pc' := 33) dX11_setReversible_32 rfl ?_
        exact w_ireturn dX11_setReversible_33 ⟨rfl, k hq j hj hx hl⟩
      · exact ⟨rfl, rfl, kx3 hq j hj hx hl⟩
    · exact ⟨rfl, rfl, kx2 hq hx⟩
  · exact ⟨rfl, rfl, kx hq⟩
