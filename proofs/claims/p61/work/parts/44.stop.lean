/-! 44: keys that move, pipes, stops (printed by wip/whole/p44.py) -/
theorem bI_0 {b : Bool} : bI b = 0 ↔ b = false := by cases b <;> simp [bI]
theorem bI_n0 {b : Bool} : ¬ bI b = 0 ↔ b = true := by cases b <;> simp [bI]
theorem bI_1 {b : Bool} : bI b = 1 ↔ b = true := by cases b <;> simp [bI]
/-- the first key that is down, of n from y on by steps of z; -1 if there is none -/
def s_first (I : e_I) (x : Int32) (z : Int32) : Int32 → Nat → Int32
  | _, 0 => -1
  | y, n + 1 => if s_dn I x y = true then y else s_first I x z (y + z) n
def s_kcn (x : Int32) : Nat := if x = 0 then 32 else 61
theorem s_kc_nI (x : Int32) : s_kc x = nI (s_kcn x) := by unfold s_kc s_kcn; split <;> rfl
theorem s_kcn_le (x : Int32) : s_kcn x ≤ 61 := by unfold s_kcn; split <;> decide
/-- a key is put -/
def s_put1 (I : e_I) (n : Nat) (b now : Int32) : e_I := if b = 0 then s_up I f_a_pressed n b else s_up (s_up (s_up I f_a_pressed n b) f_a_pressedAt n now) f_lastPressedAt 0 now
def s_put2 (I : e_I) (x y b now : Int32) : e_I := s_up (s_put1 I (s_kn x y) b now) f_a_lowest x.toNatClampNeg (s_first (s_put1 I (s_kn x y) b now) x 1 0 (s_kcn x))
def s_put (I : e_I) (x y b now : Int32) : e_I := s_up (s_put2 I x y b now) f_a_highest x.toNatClampNeg (s_first (s_put2 I x y b now) x (-1) (s_kc x - 1) (s_kcn x))
theorem s_eqC.put {I : e_I} {x y b now : Int32} : s_eqC I (s_put I x y b now) := by
  have h1 : s_eqC I (s_put1 I (s_kn x y) b now) := by
    unfold s_put1
    split
    · exact s_eqC.up (by decide)
    · exact ((s_eqC.up (by decide)).trans (s_eqC.up (by decide))).trans (s_eqC.up (by decide))
  exact (h1.trans (s_eqC.up (by decide))).trans (s_eqC.up (by decide))
/-- reasons of a pipe, its player's included; whether it is blown -/
def s_ar (I : e_I) (j : Nat) : Int32 := if I f_p_isHeld j = 0 then I f_p_found j else I f_p_found j + 1
def s_bl (I : e_I) (j : Nat) : Bool := decide (I f_p_fault j = 99) || (decide (I f_p_fault j ≠ 100) && decide (I f_p_isOpened j ≠ 0))
def s_mp (I : e_I) (j : Nat) (now dl rs : Int32) : e_I := if I f_p_isWanted j = I f_p_isOpened j ∨ now - I f_p_changedAt j < dl then I else if I f_p_isOpened j ≠ 0 then s_up (s_up I f_p_isOpened j 0) f_p_closedAt j now else if rs ≤ now - I f_p_closedAt j then s_up I f_p_isOpened j 1 else I
theorem s_eqC.mp {I : e_I} {j : Nat} {now dl rs : Int32} : s_eqC I (s_mp I j now dl rs) := by
  unfold s_mp
  split
  · exact s_eqC.rfl'
  · split
    · exact (s_eqC.up (by decide)).trans (s_eqC.up (by decide))
    · split
      · exact s_eqC.up (by decide)
      · exact s_eqC.rfl'
/-- rows and wires of a stop -/
def s_sT : List Nat := [T_S_ranks, T_S_offsets, T_S_firsts, T_S_lasts, T_S_places, T_S_keysAt]
def s_hr (I : e_I) (k : Nat) (x : Int32) : Bool := decide (0 ≤ x) && (decide (x < I f_s_rows k) && decide (x < 4))
theorem s_hr_of {I : e_I} {k : Nat} {x : Int32} (h : s_hr I k x = true) : 0 ≤ x ∧ x < I f_s_rows k ∧ x < 4 := by unfold s_hr at h; simpa using h
def s_rk (I : e_I) (k : Nat) (x : Int32) : Int32 := if s_hr I k x = true then I f_s_ranks (k * 4 + x.toNatClampNeg) else -1
def s_pl (I : e_I) (k : Nat) (y : Int32) : Int32 := if y < 0 ∨ 61 ≤ y then -1 else I f_s_places (k * 61 + y.toNatClampNeg)
def s_nt (I : e_I) (k : Nat) (x y : Int32) : Int32 := if s_hr I k x = true ∧ I f_s_firsts (k * 4 + x.toNatClampNeg) ≤ s_pl I k y ∧ s_pl I k y ≤ I f_s_lasts (k * 4 + x.toNatClampNeg) then 36 + s_pl I k y + I f_s_offsets (k * 4 + x.toNatClampNeg) else -1
def s_ky (I : e_I) (k : Nat) (x z : Int32) : Int32 := if s_hr I k x = true ∧ I f_s_firsts (k * 4 + x.toNatClampNeg) ≤ z - 36 - I f_s_offsets (k * 4 + x.toNatClampNeg) ∧ z - 36 - I f_s_offsets (k * 4 + x.toNatClampNeg) ≤ I f_s_lasts (k * 4 + x.toNatClampNeg) ∧ 0 ≤ z - 36 - I f_s_offsets (k * 4 + x.toNatClampNeg) ∧ z - 36 - I f_s_offsets (k * 4 + x.toNatClampNeg) < 61 then I f_s_keysAt (k * 61 + (z - 36 - I f_s_offsets (k * 4 + x.toNatClampNeg)).toNatClampNeg) else -1
def s_pp (I : e_I) (k : Nat) (x y : Int32) : e_I := if 0 ≤ x ∧ x < 61 ∧ 0 ≤ y ∧ y < 61 then s_up (s_up I f_s_places (k * 61 + x.toNatClampNeg) y) f_s_keysAt (k * 61 + y.toNatClampNeg) x else I
def s_chp (I : e_I) (k : Nat) (x y : Int32) : e_I := s_pp (s_pp I k x (s_pl I k y)) k y (s_pl I k x)
def s_addr (I : e_I) (k : Nat) (x y z t : Int32) : e_I := s_up (s_up (s_up (s_up (s_up I f_s_ranks (k * 4 + (I f_s_rows k).toNatClampNeg) x) f_s_offsets (k * 4 + (I f_s_rows k).toNatClampNeg) y) f_s_firsts (k * 4 + (I f_s_rows k).toNatClampNeg) z) f_s_lasts (k * 4 + (I f_s_rows k).toNatClampNeg) t) f_s_rows k (I f_s_rows k + 1)
def s_dsp (I : e_I) (k : Nat) : Nat := s_sum 61 (fun i => if I f_s_places (k * 61 + i) = nI i then 0 else 1)
set_option maxRecDepth 100000 in
set_option maxHeartbeats 4000000 in
theorem l_X3_firstPressed {X : e_XT} {d : Nat} {p : e_Sp} {I : e_I} {J : e_Jt} {c : Nat × Nat} {w : e_Rw1} {Q : e_Rt → e_SS → Prop} {x y0 z r : Int32} (hp : s_ok p) (k : Q (.inl (some (.int r))) (p, I, J, c, w)) : ∀ (n : Nat) (i : Nat) (y : Int32), (h1 : i ≤ s_kcn x) → (hr : s_first I x z y (s_kcn x - i) = r) → (hn : s_kcn x - i < n) → s_w X (d + 2) K_X3_firstPressed 6 [some (.ref (p.1 T_KEYS 0)), some (.int x), some (.int y0), some (.int z), some (.int y), some (.int (nI i))] [] (p, I, J, c, w) (fun r S' => e_rcr (some FieldType.int) r = true ∧ Q r S') := by
  intro n
  induction n with
  | zero =>
    intro i y h1 hr hn
    exact absurd hn (Nat.not_lt_zero _)
  | succ n ih =>
    intro i y h1 hr hn
    refine w_op (pc' := 8) dX3_firstPressed_6 rfl ?_
    refine w_op (pc' := 9) dX3_firstPressed_8 rfl ?_
    refine t_callS (As := [_]) dX3_firstPressed_9 rfl rM_X3_countOf (by decide) rfl rfl (by decide) (Nat.le_of_ble_eq_true rfl) (c_X3_countOf _ ?_)
    show s_w _ _ _ 12 _ _ _ _
    rw [s_kc_nI]
    refine w_icmpge (t := 40) dX3_firstPressed_12 (by decide) (fun c12 => ?_) (fun c12 => ?_)
    · have h61 := s_kcn_le x
      have hi : s_kcn x ≤ i := (nI_leI (by omega) (by omega)).mp c12
      refine w_iconst (v := (-1)) dX3_firstPressed_40 rfl ?_
      exact w_ireturn dX3_firstPressed_41 ⟨rfl, s_eqi (by rw [← hr, show s_kcn x - i = 0 by omega]; rfl) k⟩
    · have h61 := s_kcn_le x
      have hi : i < s_kcn x := Nat.lt_of_not_le (fun z => c12 ((nI_leI (by omega) (by omega)).mpr z))
      obtain ⟨m, hm⟩ : ∃ m, s_kcn x - i = m + 1 := ⟨s_kcn x - i - 1, by omega⟩
      rw [hm] at hr
      refine w_op (pc' := 16) dX3_firstPressed_15 rfl ?_
      refine w_op (pc' := 17) dX3_firstPressed_16 rfl ?_
      refine w_op (pc' := 19) dX3_firstPressed_17 rfl ?_
      refine t_callV (t := T_KEYS) (As := [_, _]) dX3_firstPressed_19 rfl rM_X3_isPressed (by decide) rfl rfl (by decide) (by decide) (Nat.le_of_ble_eq_true rfl) rfl (hp.1 _ rfl) (c_X3_isPressed hp ?_)
      show s_w _ _ _ 22 _ _ _ _
      refine w_ifeq (t := 28) dX3_firstPressed_22 (by decide) (fun c22 => ?_) (fun c22 => ?_)
      · refine w_op (pc' := 30) dX3_firstPressed_28 rfl ?_
        refine w_op (pc' := 31) dX3_firstPressed_30 rfl ?_
        refine w_op (pc' := 32) dX3_firstPressed_31 rfl ?_
        refine w_op (pc' := 34) (ll' := [_, _, _, _, _, _]) dX3_firstPressed_32 rfl ?_
        refine w_op (pc' := 37) (ll' := [_, _, _, _, _, _]) dX3_firstPressed_34 rfl ?_
        refine w_goto (t := 6) dX3_firstPressed_37 (by decide) ?_
        rw [show nI i + Int32.ofInt 1 = nI (i + 1) from nI_1 i]
        refine ih (i + 1) _ (by omega) ?_ (by omega)
        rw [show s_kcn x - (i + 1) = m by omega]
        exact (if_neg (by rw [bI_0] at c22; simp [c22])).symm.trans hr
      · refine w_op (pc' := 27) dX3_firstPressed_25 rfl ?_
        exact w_ireturn dX3_firstPressed_27 ⟨rfl, s_eqi (by rw [← hr]; exact if_pos (bI_n0.mp c22)) k⟩
set_option maxRecDepth 100000 in
set_option maxHeartbeats 4000000 in
theorem c_X3_firstPressed {X : e_XT} {d : Nat} {p : e_Sp} {I : e_I} {J : e_Jt} {c : Nat × Nat} {w : e_Rw1} {Q : e_Rt → e_SS → Prop} {x y z : Int32} (hp : s_ok p) (k : Q (.inl (some (.int (s_first I x z y (s_kcn x))))) (p, I, J, c, w)) : s_c X (d + 2) 57 [.ref (p.1 T_KEYS 0), .int x, .int y, .int z] (p, I, J, c, w) Q := by
  refine m_X3_firstPressed (Nat.le_of_ble_eq_true rfl) ?_
  show s_w _ _ _ 0 _ _ _ _
  refine w_op (pc' := 1) dX3_firstPressed_0 rfl ?_
  refine w_op (pc' := 3) (ll' := [_, _, _, _, _, _]) dX3_firstPressed_1 rfl ?_
  refine w_iconst (v := 0) dX3_firstPressed_3 rfl ?_
  refine w_op (pc' := 6) (ll' := [_, _, _, _, _, _]) dX3_firstPressed_4 rfl ?_
  exact l_X3_firstPressed hp k (s_kcn x + 1) 0 _ (Nat.zero_le _) rfl (by omega)
set_option maxRecDepth 100000 in
set_option maxHeartbeats 4000000 in
theorem c_X3_put {X : e_XT} {d : Nat} {p : e_Sp} {I : e_I} {J : e_Jt} {c : Nat × Nat} {w : e_Rw1} {Q : e_Rt → e_SS → Prop} {x y b now : Int32} (hp : s_ok p) (hb : b = 0 ∨ b = 1) (k0 : (s_idx x y < 0 ∨ I f_a_pressed (s_kn x y) = b) → Q (.inl (some (.int 0))) (p, I, J, c, w)) (k1 : s_isk x y → I f_a_pressed (s_kn x y) ≠ b → Q (.inl (some (.int 1))) (p, s_put I x y b now, J, c, w)) : s_c X (d + 3) 56 [.ref (p.1 T_KEYS 0), .int x, .int y, .int b, .int now] (p, I, J, c, w) Q := by
  refine m_X3_put (Nat.le_of_ble_eq_true rfl) ?_
  show s_w _ _ _ 0 _ _ _ _
  refine w_op (pc' := 1) dX3_put_0 rfl ?_
  refine w_op (pc' := 2) dX3_put_1 rfl ?_
  refine t_callS (As := [_, _]) dX3_put_2 rfl rM_X3_indexOf (by decide) rfl rfl (by decide) (Nat.le_of_ble_eq_true rfl) (c_X3_indexOf ?_)
  show s_w _ _ _ 5 _ _ _ _
  refine w_op (pc' := 7) (ll' := [_, _, _, _, _, _]) dX3_put_5 rfl ?_
  refine w_op (pc' := 9) dX3_put_7 rfl ?_
  refine w_iflt (t := 23) dX3_put_9 (by decide) (fun c9 => ?_) (fun c9 => ?_)
  · refine w_iconst (v := 0) dX3_put_23 rfl ?_
    exact w_ireturn dX3_put_24 ⟨s_rcb (Or.inl rfl), k0 (Or.inl c9)⟩
  · have hk := s_isk_nn c9
    refine w_op (pc' := 13) dX3_put_12 rfl ?_
    refine t_getG0 (G := g_y_pressed) dX3_put_13 rfl rfl (by decide) rfl (fun _ => rfl) (hp.1 _ rfl) ?_
    refine w_op (pc' := 18) dX3_put_16 rfl ?_
    refine t_bald0 (F := f_a_pressed) dX3_put_18 rfl (by decide) rfl (hp.1 _ rfl) (s_idx_ix hk) hk.lt ?_
    refine w_op (pc' := 20) dX3_put_19 rfl ?_
    refine w_icmpne (t := 25) dX3_put_20 (by decide) (fun c20 => ?_) (fun c20 => ?_)
    · refine w_op (pc' := 26) dX3_put_25 rfl ?_
      refine t_getG0 (G := g_y_pressed) dX3_put_26 rfl rfl (by decide) rfl (fun _ => rfl) (hp.1 _ rfl) ?_
      refine w_op (pc' := 31) dX3_put_29 rfl ?_
      refine w_op (pc' := 32) dX3_put_31 rfl ?_
      refine t_bast0 (F := f_a_pressed) dX3_put_32 rfl (by decide) (by decide) rfl (hp.1 _ rfl) (s_idx_ix hk) hk.lt (by first | exact Or.inl rfl | exact Or.inr rfl | assumption) ?_
      refine w_op (pc' := 34) dX3_put_33 rfl ?_
      refine w_ifeq (t := 52) dX3_put_34 (by decide) (fun c34 => ?_) (fun c34 => ?_)
      · refine w_op (pc' := 53) dX3_put_52 rfl ?_
        refine t_getG0 (G := g_y_lowest) dX3_put_53 rfl rfl (by decide) rfl (fun _ => rfl) (hp.1 _ rfl) ?_
        refine w_op (pc' := 57) dX3_put_56 rfl ?_
        refine w_op (pc' := 58) dX3_put_57 rfl ?_
        refine w_op (pc' := 59) dX3_put_58 rfl ?_
        refine w_iconst (v := 0) dX3_put_59 rfl ?_
        refine w_iconst (v := 1) dX3_put_60 rfl ?_
        refine t_callV (t := T_KEYS) (As := [_, _, _]) dX3_put_61 rfl rM_X3_firstPressed (by decide) rfl rfl (by decide) (by decide) (Nat.le_of_ble_eq_true rfl) rfl (hp.1 _ rfl) (c_X3_firstPressed hp ?_)
        show s_w _ _ _ 64 _ _ _ _
        refine t_iast0 (F := f_a_lowest) dX3_put_64 rfl (by decide) (by decide) rfl (hp.1 _ rfl) (s_ixo (N := 3) hk.1 hk.2.1 (by decide)) (s_ixo (N := 3) hk.1 hk.2.1 (by decide)).2.2 ?_
        refine w_op (pc' := 66) dX3_put_65 rfl ?_
        refine t_getG0 (G := g_y_highest) dX3_put_66 rfl rfl (by decide) rfl (fun _ => rfl) (hp.1 _ rfl) ?_
        refine w_op (pc' := 70) dX3_put_69 rfl ?_
        refine w_op (pc' := 71) dX3_put_70 rfl ?_
        refine w_op (pc' := 72) dX3_put_71 rfl ?_
        refine w_op (pc' := 73) dX3_put_72 rfl ?_
        refine t_callS (As := [_]) dX3_put_73 rfl rM_X3_countOf (by decide) rfl rfl (by decide) (Nat.le_of_ble_eq_true rfl) (c_X3_countOf _ ?_)
        show s_w _ _ _ 76 _ _ _ _
        refine w_iconst (v := 1) dX3_put_76 rfl ?_
        refine w_op (pc' := 78) dX3_put_77 rfl ?_
        refine w_iconst (v := (-1)) dX3_put_78 rfl ?_
        refine t_callV (t := T_KEYS) (As := [_, _, _]) dX3_put_79 rfl rM_X3_firstPressed (by decide) rfl rfl (by decide) (by decide) (Nat.le_of_ble_eq_true rfl) rfl (hp.1 _ rfl) (c_X3_firstPressed hp ?_)
        show s_w _ _ _ 82 _ _ _ _
        refine t_iast0 (F := f_a_highest) dX3_put_82 rfl (by decide) (by decide) rfl (hp.1 _ rfl) (s_ixo (N := 3) hk.1 hk.2.1 (by decide)) (s_ixo (N := 3) hk.1 hk.2.1 (by decide)).2.2 ?_
        refine w_iconst (v := 1) dX3_put_83 rfl ?_
        exact w_ireturn dX3_put_84 ⟨s_rcb (Or.inr rfl), (by have k2 := k1 hk c20; unfold s_put s_put2 s_put1 at k2; rw [if_pos c34] at k2; exact k2)⟩
      · refine w_op (pc' := 38) dX3_put_37 rfl ?_
        refine t_getG0 (G := g_y_pressedAt) dX3_put_38 rfl rfl (by decide) rfl (fun _ => rfl) (hp.1 _ rfl) ?_
        refine w_op (pc' := 43) dX3_put_41 rfl ?_
        refine w_op (pc' := 45) dX3_put_43 rfl ?_
        refine t_iast0 (F := f_a_pressedAt) dX3_put_45 rfl (by decide) (by decide) rfl (hp.1 _ rfl) (s_idx_ix hk) hk.lt ?_
        refine w_op (pc' := 47) dX3_put_46 rfl ?_
        refine w_op (pc' := 49) dX3_put_47 rfl ?_
        refine t_putI (F := f_lastPressedAt) dX3_put_49 rfl rfl (by decide) (by decide) rfl rfl (Or.inl rfl) (hp.1 _ rfl) ?_
        refine w_op (pc' := 53) dX3_put_52 rfl ?_
        refine t_getG0 (G := g_y_lowest) dX3_put_53 rfl rfl (by decide) rfl (fun _ => rfl) (hp.1 _ rfl) ?_
        refine w_op (pc' := 57) dX3_put_56 rfl ?_
        refine w_op (pc' := 58) dX3_put_57 rfl ?_
        refine w_op (pc' := 59) dX3_put_58 rfl ?_
        refine w_iconst (v := 0) dX3_put_59 rfl ?_
        refine w_iconst (v := 1) dX3_put_60 rfl ?_
        refine t_callV (t := T_KEYS) (As := [_, _, _]) dX3_put_61 rfl rM_X3_firstPressed (by decide) rfl rfl (by decide) (by decide) (Nat.le_of_ble_eq_true rfl) rfl (hp.1 _ rfl) (c_X3_firstPressed hp ?_)
        show s_w _ _ _ 64 _ _ _ _
        refine t_iast0 (F := f_a_lowest) dX3_put_64 rfl (by decide) (by decide) rfl (hp.1 _ rfl) (s_ixo (N := 3) hk.1 hk.2.1 (by decide)) (s_ixo (N := 3) hk.1 hk.2.1 (by decide)).2.2 ?_
        refine w_op (pc' := 66) dX3_put_65 rfl ?_
        refine t_getG0 (G := g_y_highest) dX3_put_66 rfl rfl (by decide) rfl (fun _ => rfl) (hp.1 _ rfl) ?_
        refine w_op (pc' := 70) dX3_put_69 rfl ?_
        refine w_op (pc' := 71) dX3_put_70 rfl ?_
        refine w_op (pc' := 72) dX3_put_71 rfl ?_
        refine w_op (pc' := 73) dX3_put_72 rfl ?_
        refine t_callS (As := [_]) dX3_put_73 rfl rM_X3_countOf (by decide) rfl rfl (by decide) (Nat.le_of_ble_eq_true rfl) (c_X3_countOf _ ?_)
        show s_w _ _ _ 76 _ _ _ _
        refine w_iconst (v := 1) dX3_put_76 rfl ?_
        refine w_op (pc' := 78) dX3_put_77 rfl ?_
        refine w_iconst (v := (-1)) dX3_put_78 rfl ?_
        refine t_callV (t := T_KEYS) (As := [_, _, _]) dX3_put_79 rfl rM_X3_firstPressed (by decide) rfl rfl (by decide) (by decide) (Nat.le_of_ble_eq_true rfl) rfl (hp.1 _ rfl) (c_X3_firstPressed hp ?_)
        show s_w _ _ _ 82 _ _ _ _
        refine t_iast0 (F := f_a_highest) dX3_put_82 rfl (by decide) (by decide) rfl (hp.1 _ rfl) (s_ixo (N := 3) hk.1 hk.2.1 (by decide)) (s_ixo (N := 3) hk.1 hk.2.1 (by decide)).2.2 ?_
        refine w_iconst (v := 1) dX3_put_83 rfl ?_
        exact w_ireturn dX3_put_84 ⟨s_rcb (Or.inr rfl), (by have k2 := k1 hk c20; unfold s_put s_put2 s_put1 at k2; rw [if_neg c34] at k2; exact k2)⟩
    · refine w_iconst (v := 0) dX3_put_23 rfl ?_
      exact w_ireturn dX3_put_24 ⟨s_rcb (Or.inl rfl), k0 (Or.inr c20)⟩
set_option maxRecDepth 100000 in
set_option maxHeartbeats 4000000 in
theorem c_X6_allReasons {X : e_XT} {d : Nat} {p : e_Sp} {I : e_I} {J : e_Jt} {c : Nat × Nat} {w : e_Rw1} {Q : e_Rt → e_SS → Prop} {j : Nat} (hj : p.2.1 T_PIPE j = true) (k : Q (.inl (some (.int (s_ar I j)))) (p, I, J, c, w)) : s_c X (d + 0) 78 [.ref (p.1 T_PIPE j)] (p, I, J, c, w) Q := by
  refine m_X6_allReasons (Nat.le_of_ble_eq_true rfl) ?_
  show s_w _ _ _ 0 _ _ _ _
  refine w_op (pc' := 1) dX6_allReasons_0 rfl ?_
  refine t_getI (F := f_p_isHeld) dX6_allReasons_1 rfl rfl (by decide) rfl ⟨rfl, fun _ => rfl⟩ (by assumption) ?_
  refine w_ifeq (t := 16) dX6_allReasons_4 (by decide) (fun c4 => ?_) (fun c4 => ?_)
  · refine w_op (pc' := 17) dX6_allReasons_16 rfl ?_
    refine t_getI (F := f_p_found) dX6_allReasons_17 rfl rfl (by decide) rfl ⟨rfl, fun _ => rfl⟩ (by assumption) ?_
    exact w_ireturn dX6_allReasons_20 ⟨rfl, s_eqi (by unfold s_ar; grind) k⟩
  · refine w_op (pc' := 8) dX6_allReasons_7 rfl ?_
    refine t_getI (F := f_p_found) dX6_allReasons_8 rfl rfl (by decide) rfl ⟨rfl, fun _ => rfl⟩ (by assumption) ?_
    refine w_iconst (v := 1) dX6_allReasons_11 rfl ?_
    refine w_op (pc' := 13) dX6_allReasons_12 rfl ?_
    refine w_goto (t := 20) dX6_allReasons_13 (by decide) ?_
    exact w_ireturn dX6_allReasons_20 ⟨rfl, s_eqi (by unfold s_ar; grind) k⟩
set_option maxRecDepth 100000 in
set_option maxHeartbeats 4000000 in
theorem c_X6_isBlown {X : e_XT} {d : Nat} {p : e_Sp} {I : e_I} {J : e_Jt} {c : Nat × Nat} {w : e_Rw1} {Q : e_Rt → e_SS → Prop} {j : Nat} (hj : p.2.1 T_PIPE j = true) (k : Q (.inl (some (.int (bI (s_bl I j))))) (p, I, J, c, w)) : s_c X (d + 0) 80 [.ref (p.1 T_PIPE j)] (p, I, J, c, w) Q := by
  refine m_X6_isBlown (Nat.le_of_ble_eq_true rfl) ?_
  show s_w _ _ _ 0 _ _ _ _
  refine w_op (pc' := 1) dX6_isBlown_0 rfl ?_
  refine t_getI (F := f_p_fault) dX6_isBlown_1 rfl rfl (by decide) rfl ⟨rfl, fun _ => rfl⟩ (by assumption) ?_
  refine w_bipush (v := 99) dX6_isBlown_4 rfl ?_
  refine w_icmpeq (t := 25) dX6_isBlown_6 (by decide) (fun c6 => ?_) (fun c6 => ?_)
  · refine w_iconst (v := 1) dX6_isBlown_25 rfl ?_
    refine w_goto (t := 30) dX6_isBlown_26 (by decide) ?_
    exact w_ireturn dX6_isBlown_30 ⟨s_rcb (by first | exact Or.inl rfl | exact Or.inr rfl | exact bI_or _), s_eqi (by unfold s_bl; grind) k⟩
  · refine w_op (pc' := 10) dX6_isBlown_9 rfl ?_
    refine t_getI (F := f_p_fault) dX6_isBlown_10 rfl rfl (by decide) rfl ⟨rfl, fun _ => rfl⟩ (by assumption) ?_
    refine w_bipush (v := 100) dX6_isBlown_13 rfl ?_
    refine w_icmpeq (t := 29) dX6_isBlown_15 (by decide) (fun c15 => ?_) (fun c15 => ?_)
    · refine w_iconst (v := 0) dX6_isBlown_29 rfl ?_
      exact w_ireturn dX6_isBlown_30 ⟨s_rcb (by first | exact Or.inl rfl | exact Or.inr rfl | exact bI_or _), s_eqi (by unfold s_bl; grind) k⟩
    · refine w_op (pc' := 19) dX6_isBlown_18 rfl ?_
      refine t_getI (F := f_p_isOpened) dX6_isBlown_19 rfl rfl (by decide) rfl ⟨rfl, fun _ => rfl⟩ (by assumption) ?_
      refine w_ifeq (t := 29) dX6_isBlown_22 (by decide) (fun c22 => ?_) (fun c22 => ?_)
      · refine w_iconst (v := 0) dX6_isBlown_29 rfl ?_
        exact w_ireturn dX6_isBlown_30 ⟨s_rcb (by first | exact Or.inl rfl | exact Or.inr rfl | exact bI_or _), s_eqi (by unfold s_bl; grind) k⟩
      · refine w_iconst (v := 1) dX6_isBlown_25 rfl ?_
        refine w_goto (t := 30) dX6_isBlown_26 (by decide) ?_
        exact w_ireturn dX6_isBlown_30 ⟨s_rcb (by first | exact Or.inl rfl | exact Or.inr rfl | exact bI_or _), s_eqi (by unfold s_bl; grind) k⟩
set_option maxRecDepth 100000 in
set_option maxHeartbeats 4000000 in
theorem c_X6_movePallet {X : e_XT} {d : Nat} {p : e_Sp} {I : e_I} {J : e_Jt} {c : Nat × Nat} {w : e_Rw1} {Q : e_Rt → e_SS → Prop} {j : Nat} (hj : p.2.1 T_PIPE j = true) {x y z : Int32} (k : Q (.inl none) (p, s_mp I j x y z, J, c, w)) : s_c X (d + 0) 79 [.ref (p.1 T_PIPE j), .int x, .int y, .int z] (p, I, J, c, w) Q := by
  refine m_X6_movePallet (Nat.le_of_ble_eq_true rfl) ?_
  show s_w _ _ _ 0 _ _ _ _
  refine w_op (pc' := 1) dX6_movePallet_0 rfl ?_
  refine t_getI (F := f_p_isWanted) dX6_movePallet_1 rfl rfl (by decide) rfl ⟨rfl, fun _ => rfl⟩ (by assumption) ?_
  refine w_op (pc' := 5) dX6_movePallet_4 rfl ?_
  refine t_getI (F := f_p_isOpened) dX6_movePallet_5 rfl rfl (by decide) rfl ⟨rfl, fun _ => rfl⟩ (by assumption) ?_
  refine w_icmpeq (t := 21) dX6_movePallet_8 (by decide) (fun c8 => ?_) (fun c8 => ?_)
  · exact w_return dX6_movePallet_21 ⟨rfl, (by unfold s_mp at k; rw [if_pos (Or.inl c8)] at k; exact k)⟩
  · refine w_op (pc' := 12) dX6_movePallet_11 rfl ?_
    refine w_op (pc' := 13) dX6_movePallet_12 rfl ?_
    refine t_getI (F := f_p_changedAt) dX6_movePallet_13 rfl rfl (by decide) rfl ⟨rfl, fun _ => rfl⟩ (by assumption) ?_
    refine w_op (pc' := 17) dX6_movePallet_16 rfl ?_
    refine w_op (pc' := 18) dX6_movePallet_17 rfl ?_
    refine w_icmpge (t := 22) dX6_movePallet_18 (by decide) (fun c18 => ?_) (fun c18 => ?_)
    · refine w_op (pc' := 23) dX6_movePallet_22 rfl ?_
      refine t_getI (F := f_p_isOpened) dX6_movePallet_23 rfl rfl (by decide) rfl ⟨rfl, fun _ => rfl⟩ (by assumption) ?_
      refine w_ifeq (t := 42) dX6_movePallet_26 (by decide) (fun c26 => ?_) (fun c26 => ?_)
      · refine w_op (pc' := 43) dX6_movePallet_42 rfl ?_
        refine w_op (pc' := 44) dX6_movePallet_43 rfl ?_
        refine t_getI (F := f_p_closedAt) dX6_movePallet_44 rfl rfl (by decide) rfl ⟨rfl, fun _ => rfl⟩ (by assumption) ?_
        refine w_op (pc' := 48) dX6_movePallet_47 rfl ?_
        refine w_op (pc' := 49) dX6_movePallet_48 rfl ?_
        refine w_icmplt (t := 57) dX6_movePallet_49 (by decide) (fun c49 => ?_) (fun c49 => ?_)
        · exact w_return dX6_movePallet_57 ⟨rfl, (by unfold s_mp at k; rw [if_neg (by grind), if_neg (fun z => z c26), if_neg (Int32.not_le.mpr c49)] at k; exact k)⟩
        · refine w_op (pc' := 53) dX6_movePallet_52 rfl ?_
          refine w_iconst (v := 1) dX6_movePallet_53 rfl ?_
          refine t_putI (F := f_p_isOpened) dX6_movePallet_54 rfl rfl (by decide) (by decide) rfl (s_ckb (by first | exact Or.inl rfl | exact Or.inr rfl | assumption)) (Or.inl rfl) (by assumption) ?_
          exact w_return dX6_movePallet_57 ⟨rfl, (by unfold s_mp at k; rw [if_neg (by grind), if_neg (fun z => z c26), if_pos (Int32.not_lt.mp c49)] at k; exact k)⟩
      · refine w_op (pc' := 30) dX6_movePallet_29 rfl ?_
        refine w_iconst (v := 0) dX6_movePallet_30 rfl ?_
        refine t_putI (F := f_p_isOpened) dX6_movePallet_31 rfl rfl (by decide) (by decide) rfl (s_ckb (by first | exact Or.inl rfl | exact Or.inr rfl | assumption)) (Or.inl rfl) (by assumption) ?_
        refine w_op (pc' := 35) dX6_movePallet_34 rfl ?_
        refine w_op (pc' := 36) dX6_movePallet_35 rfl ?_
        refine t_putI (F := f_p_closedAt) dX6_movePallet_36 rfl rfl (by decide) (by decide) rfl rfl (Or.inl rfl) (by assumption) ?_
        refine w_goto (t := 57) dX6_movePallet_39 (by decide) ?_
        exact w_return dX6_movePallet_57 ⟨rfl, (by unfold s_mp at k; rw [if_neg (by grind), if_pos c26] at k; exact k)⟩
    · exact w_return dX6_movePallet_21 ⟨rfl, (by unfold s_mp at k; rw [if_pos (Or.inr (Int32.not_le.mp c18))] at k; exact k)⟩
set_option maxRecDepth 100000 in
set_option maxHeartbeats 4000000 in
theorem c_X8_hasRow {X : e_XT} {d : Nat} {p : e_Sp} {I : e_I} {J : e_Jt} {c : Nat × Nat} {w : e_Rw1} {Q : e_Rt → e_SS → Prop} {j : Nat} (hj : p.2.1 T_STOP j = true) {x : Int32} (k : Q (.inl (some (.int (bI (s_hr I j x))))) (p, I, J, c, w)) : s_c X (d + 0) 88 [.ref (p.1 T_STOP j), .int x] (p, I, J, c, w) Q := by
  refine m_X8_hasRow (Nat.le_of_ble_eq_true rfl) ?_
  show s_w _ _ _ 0 _ _ _ _
  refine w_op (pc' := 1) dX8_hasRow_0 rfl ?_
  refine w_iflt (t := 21) dX8_hasRow_1 (by decide) (fun c1 => ?_) (fun c1 => ?_)
  · refine w_iconst (v := 0) dX8_hasRow_21 rfl ?_
    exact w_ireturn dX8_hasRow_22 ⟨s_rcb (by first | exact Or.inl rfl | exact Or.inr rfl | exact bI_or _), s_eqi (by unfold s_hr; grind) k⟩
  · refine w_op (pc' := 5) dX8_hasRow_4 rfl ?_
    refine w_op (pc' := 6) dX8_hasRow_5 rfl ?_
    refine t_getI (F := f_s_rows) dX8_hasRow_6 rfl rfl (by decide) rfl ⟨rfl, fun _ => rfl⟩ (by assumption) ?_
    refine w_icmpge (t := 21) dX8_hasRow_9 (by decide) (fun c9 => ?_) (fun c9 => ?_)
    · refine w_iconst (v := 0) dX8_hasRow_21 rfl ?_
      exact w_ireturn dX8_hasRow_22 ⟨s_rcb (by first | exact Or.inl rfl | exact Or.inr rfl | exact bI_or _), s_eqi (by unfold s_hr; grind) k⟩
    · refine w_op (pc' := 13) dX8_hasRow_12 rfl ?_
      refine w_iconst (v := 4) dX8_hasRow_13 rfl ?_
      refine w_icmpge (t := 21) dX8_hasRow_14 (by decide) (fun c14 => ?_) (fun c14 => ?_)
      · refine w_iconst (v := 0) dX8_hasRow_21 rfl ?_
        exact w_ireturn dX8_hasRow_22 ⟨s_rcb (by first | exact Or.inl rfl | exact Or.inr rfl | exact bI_or _), s_eqi (by unfold s_hr; grind) k⟩
      · refine w_iconst (v := 1) dX8_hasRow_17 rfl ?_
        refine w_goto (t := 22) dX8_hasRow_18 (by decide) ?_
        exact w_ireturn dX8_hasRow_22 ⟨s_rcb (by first | exact Or.inl rfl | exact Or.inr rfl | exact bI_or _), s_eqi (by unfold s_hr; grind) k⟩
set_option maxRecDepth 100000 in
set_option maxHeartbeats 4000000 in
theorem c_X8_rankOf {X : e_XT} {d : Nat} {p : e_Sp} {I : e_I} {J : e_Jt} {c : Nat × Nat} {w : e_Rw1} {Q : e_Rt → e_SS → Prop} {j : Nat} (hj : p.2.1 T_STOP j = true) (hA : ∀ t, t ∈ s_sT → p.2.1 t j = true) {x : Int32} (k : Q (.inl (some (.int (s_rk I j x)))) (p, I, J, c, w)) : s_c X (d + 1) 87 [.ref (p.1 T_STOP j), .int x] (p, I, J, c, w) Q := by
  refine m_X8_rankOf (Nat.le_of_ble_eq_true rfl) ?_
  show s_w _ _ _ 0 _ _ _ _
  refine w_op (pc' := 1) dX8_rankOf_0 rfl ?_
  refine w_op (pc' := 2) dX8_rankOf_1 rfl ?_
  refine t_callV (t := T_STOP) (As := [_]) dX8_rankOf_2 rfl rM_X8_hasRow (by decide) rfl rfl (by decide) (by decide) (Nat.le_of_ble_eq_true rfl) rfl hj (c_X8_hasRow hj ?_)
  show s_w _ _ _ 5 _ _ _ _
  refine w_ifeq (t := 17) dX8_rankOf_5 (by decide) (fun c5 => ?_) (fun c5 => ?_)
  · refine w_iconst (v := (-1)) dX8_rankOf_17 rfl ?_
    exact w_ireturn dX8_rankOf_18 ⟨rfl, s_eqi (by unfold s_rk; grind) k⟩
  · have hr := s_hr_of (bI_n0.mp c5)
    refine w_op (pc' := 9) dX8_rankOf_8 rfl ?_
    refine t_getG1 (G := g_s_ranks) dX8_rankOf_9 rfl rfl (by decide) rfl (fun _ => rfl) hj ?_
    refine w_op (pc' := 13) dX8_rankOf_12 rfl ?_
    refine t_iald (F := f_s_ranks) dX8_rankOf_13 rfl (by decide) rfl (hA _ (by decide)) (s_ixo (N := 4) hr.1 hr.2.2 (by decide)) (s_ixo (N := 4) hr.1 hr.2.2 (by decide)).2.2 ?_
    refine w_goto (t := 18) dX8_rankOf_14 (by decide) ?_
    exact w_ireturn dX8_rankOf_18 ⟨rfl, s_eqi (by unfold s_rk; grind) k⟩
set_option maxRecDepth 100000 in
set_option maxHeartbeats 4000000 in
theorem c_X8_placeOf {X : e_XT} {d : Nat} {p : e_Sp} {I : e_I} {J : e_Jt} {c : Nat × Nat} {w : e_Rw1} {Q : e_Rt → e_SS → Prop} {j : Nat} (hj : p.2.1 T_STOP j = true) (hA : ∀ t, t ∈ s_sT → p.2.1 t j = true) {y : Int32} (k : Q (.inl (some (.int (s_pl I j y)))) (p, I, J, c, w)) : s_c X (d + 0) 90 [.ref (p.1 T_STOP j), .int y] (p, I, J, c, w) Q := by
  refine m_X8_placeOf (Nat.le_of_ble_eq_true rfl) ?_
  show s_w _ _ _ 0 _ _ _ _
  refine w_op (pc' := 1) dX8_placeOf_0 rfl ?_
  refine w_iflt (t := 10) dX8_placeOf_1 (by decide) (fun c1 => ?_) (fun c1 => ?_)
  · refine w_iconst (v := (-1)) dX8_placeOf_10 rfl ?_
    refine w_goto (t := 20) dX8_placeOf_11 (by decide) ?_
    exact w_ireturn dX8_placeOf_20 ⟨rfl, s_eqi (by unfold s_pl; grind) k⟩
  · refine w_op (pc' := 5) dX8_placeOf_4 rfl ?_
    refine w_bipush (v := 61) dX8_placeOf_5 rfl ?_
    refine w_icmplt (t := 14) dX8_placeOf_7 (by decide) (fun c7 => ?_) (fun c7 => ?_)
    · refine w_op (pc' := 15) dX8_placeOf_14 rfl ?_
      refine t_getG1 (G := g_s_places) dX8_placeOf_15 rfl rfl (by decide) rfl (fun _ => rfl) hj ?_
      refine w_op (pc' := 19) dX8_placeOf_18 rfl ?_
      refine t_iald (F := f_s_places) dX8_placeOf_19 rfl (by decide) rfl (hA _ (by decide)) (s_ixo (N := 61) (Int32.not_lt.mp c1) c7 (by decide)) (s_ixo (N := 61) (Int32.not_lt.mp c1) c7 (by decide)).2.2 ?_
      exact w_ireturn dX8_placeOf_20 ⟨rfl, s_eqi (by unfold s_pl; grind) k⟩
    · refine w_iconst (v := (-1)) dX8_placeOf_10 rfl ?_
      refine w_goto (t := 20) dX8_placeOf_11 (by decide) ?_
      exact w_ireturn dX8_placeOf_20 ⟨rfl, s_eqi (by unfold s_pl; grind) k⟩
set_option maxRecDepth 100000 in
set_option maxHeartbeats 4000000 in
theorem c_X8_noteOf {X : e_XT} {d : Nat} {p : e_Sp} {I : e_I} {J : e_Jt} {c : Nat × Nat} {w : e_Rw1} {Q : e_Rt → e_SS → Prop} {j : Nat} (hj : p.2.1 T_STOP j = true) (hA : ∀ t, t ∈ s_sT → p.2.1 t j = true) {x y : Int32} (k : Q (.inl (some (.int (s_nt I j x y)))) (p, I, J, c, w)) : s_c X (d + 1) 89 [.ref (p.1 T_STOP j), .int x, .int y] (p, I, J, c, w) Q := by
  refine m_X8_noteOf (Nat.le_of_ble_eq_true rfl) ?_
  show s_w _ _ _ 0 _ _ _ _
  refine w_op (pc' := 1) dX8_noteOf_0 rfl ?_
  refine w_op (pc' := 2) dX8_noteOf_1 rfl ?_
  refine t_callV (t := T_STOP) (As := [_]) dX8_noteOf_2 rfl rM_X8_placeOf (by decide) rfl rfl (by decide) (by decide) (Nat.le_of_ble_eq_true rfl) rfl hj (c_X8_placeOf hj hA ?_)
  show s_w _ _ _ 5 _ _ _ _
  refine w_op (pc' := 6) (ll' := [_, _, _, _, _]) dX8_noteOf_5 rfl ?_
  refine w_op (pc' := 7) dX8_noteOf_6 rfl ?_
  refine w_op (pc' := 8) dX8_noteOf_7 rfl ?_
  refine t_callV (t := T_STOP) (As := [_]) dX8_noteOf_8 rfl rM_X8_hasRow (by decide) rfl rfl (by decide) (by decide) (Nat.le_of_ble_eq_true rfl) rfl hj (c_X8_hasRow hj ?_)
  show s_w _ _ _ 11 _ _ _ _
  refine w_ifeq (t := 38) dX8_noteOf_11 (by decide) (fun c11 => ?_) (fun c11 => ?_)
  · refine w_iconst (v := 0) dX8_noteOf_38 rfl ?_
    refine w_op (pc' := 41) (ll' := [_, _, _, _, _]) dX8_noteOf_39 rfl ?_
    refine w_op (pc' := 43) dX8_noteOf_41 rfl ?_
    refine w_ifeq (t := 60) dX8_noteOf_43 (by decide) (fun c43 => ?_) (fun c43 => ?_)
    · refine w_iconst (v := (-1)) dX8_noteOf_60 rfl ?_
      exact w_ireturn dX8_noteOf_61 ⟨rfl, s_eqi (by unfold s_nt; grind) k⟩
    · exact absurd c43 (by decide)
  · have hr := s_hr_of (bI_n0.mp c11)
    refine w_op (pc' := 15) dX8_noteOf_14 rfl ?_
    refine w_op (pc' := 16) dX8_noteOf_15 rfl ?_
    refine t_getG1 (G := g_s_firsts) dX8_noteOf_16 rfl rfl (by decide) rfl (fun _ => rfl) hj ?_
    refine w_op (pc' := 20) dX8_noteOf_19 rfl ?_
    refine t_iald (F := f_s_firsts) dX8_noteOf_20 rfl (by decide) rfl (hA _ (by decide)) (s_ixo (N := 4) hr.1 hr.2.2 (by decide)) (s_ixo (N := 4) hr.1 hr.2.2 (by decide)).2.2 ?_
    refine w_icmplt (t := 38) dX8_noteOf_21 (by decide) (fun c21 => ?_) (fun c21 => ?_)
    · refine w_iconst (v := 0) dX8_noteOf_38 rfl ?_
      refine w_op (pc' := 41) (ll' := [_, _, _, _, _]) dX8_noteOf_39 rfl ?_
      refine w_op (pc' := 43) dX8_noteOf_41 rfl ?_
      refine w_ifeq (t := 60) dX8_noteOf_43 (by decide) (fun c43 => ?_) (fun c43 => ?_)
      · refine w_iconst (v := (-1)) dX8_noteOf_60 rfl ?_
        exact w_ireturn dX8_noteOf_61 ⟨rfl, s_eqi (by unfold s_nt; grind) k⟩
      · exact absurd c43 (by decide)
    · refine w_op (pc' := 25) dX8_noteOf_24 rfl ?_
      refine w_op (pc' := 26) dX8_noteOf_25 rfl ?_
      refine t_getG1 (G := g_s_lasts) dX8_noteOf_26 rfl rfl (by decide) rfl (fun _ => rfl) hj ?_
      refine w_op (pc' := 30) dX8_noteOf_29 rfl ?_
      refine t_iald (F := f_s_lasts) dX8_noteOf_30 rfl (by decide) rfl (hA _ (by decide)) (s_ixo (N := 4) hr.1 hr.2.2 (by decide)) (s_ixo (N := 4) hr.1 hr.2.2 (by decide)).2.2 ?_
      refine w_icmpgt (t := 38) dX8_noteOf_31 (by decide) (fun c31 => ?_) (fun c31 => ?_)
      · refine w_iconst (v := 0) dX8_noteOf_38 rfl ?_
        refine w_op (pc' := 41) (ll' := [_, _, _, _, _]) dX8_noteOf_39 rfl ?_
        refine w_op (pc' := 43) dX8_noteOf_41 rfl ?_
        refine w_ifeq (t := 60) dX8_noteOf_43 (by decide) (fun c43 => ?_) (fun c43 => ?_)
        · refine w_iconst (v := (-1)) dX8_noteOf_60 rfl ?_
          exact w_ireturn dX8_noteOf_61 ⟨rfl, s_eqi (by unfold s_nt; grind) k⟩
        · exact absurd c43 (by decide)
      · refine w_iconst (v := 1) dX8_noteOf_34 rfl ?_
        refine w_goto (t := 39) dX8_noteOf_35 (by decide) ?_
        refine w_op (pc' := 41) (ll' := [_, _, _, _, _]) dX8_noteOf_39 rfl ?_
        refine w_op (pc' := 43) dX8_noteOf_41 rfl ?_
        refine w_ifeq (t := 60) dX8_noteOf_43 (by decide) (fun c43 => ?_) (fun c43 => ?_)
        · exact absurd c43 (by decide)
        · refine w_bipush (v := 36) dX8_noteOf_46 rfl ?_
          refine w_op (pc' := 49) dX8_noteOf_48 rfl ?_
          refine w_op (pc' := 50) dX8_noteOf_49 rfl ?_
          refine w_op (pc' := 51) dX8_noteOf_50 rfl ?_
          refine t_getG1 (G := g_s_offsets) dX8_noteOf_51 rfl rfl (by decide) rfl (fun _ => rfl) hj ?_
          refine w_op (pc' := 55) dX8_noteOf_54 rfl ?_
          refine t_iald (F := f_s_offsets) dX8_noteOf_55 rfl (by decide) rfl (hA _ (by decide)) (s_ixo (N := 4) hr.1 hr.2.2 (by decide)) (s_ixo (N := 4) hr.1 hr.2.2 (by decide)).2.2 ?_
          refine w_op (pc' := 57) dX8_noteOf_56 rfl ?_
          refine w_goto (t := 61) dX8_noteOf_57 (by decide) ?_
          exact w_ireturn dX8_noteOf_61 ⟨rfl, s_eqi (by unfold s_nt; grind) k⟩
set_option maxRecDepth 100000 in
set_option maxHeartbeats 4000000 in
theorem c_X8_keyOf {X : e_XT} {d : Nat} {p : e_Sp} {I : e_I} {J : e_Jt} {c : Nat × Nat} {w : e_Rw1} {Q : e_Rt → e_SS → Prop} {j : Nat} (hj : p.2.1 T_STOP j = true) (hA : ∀ t, t ∈ s_sT → p.2.1 t j = true) {x z : Int32} (k : Q (.inl (some (.int (s_ky I j x z)))) (p, I, J, c, w)) : s_c X (d + 1) 91 [.ref (p.1 T_STOP j), .int x, .int z] (p, I, J, c, w) Q := by
  refine m_X8_keyOf (Nat.le_of_ble_eq_true rfl) ?_
  show s_w _ _ _ 0 _ _ _ _
  refine w_op (pc' := 1) dX8_keyOf_0 rfl ?_
  refine w_op (pc' := 2) dX8_keyOf_1 rfl ?_
  refine t_callV (t := T_STOP) (As := [_]) dX8_keyOf_2 rfl rM_X8_hasRow (by decide) rfl rfl (by decide) (by decide) (Nat.le_of_ble_eq_true rfl) rfl hj (c_X8_hasRow hj ?_)
  show s_w _ _ _ 5 _ _ _ _
  refine w_ifne (t := 10) dX8_keyOf_5 (by decide) (fun c5 => ?_) (fun c5 => ?_)
  · have hr := s_hr_of (bI_n0.mp c5)
    refine w_op (pc' := 11) dX8_keyOf_10 rfl ?_
    refine w_bipush (v := 36) dX8_keyOf_11 rfl ?_
    refine w_op (pc' := 14) dX8_keyOf_13 rfl ?_
    refine w_op (pc' := 15) dX8_keyOf_14 rfl ?_
    refine t_getG1 (G := g_s_offsets) dX8_keyOf_15 rfl rfl (by decide) rfl (fun _ => rfl) hj ?_
    refine w_op (pc' := 19) dX8_keyOf_18 rfl ?_
    refine t_iald (F := f_s_offsets) dX8_keyOf_19 rfl (by decide) rfl (hA _ (by decide)) (s_ixo (N := 4) hr.1 hr.2.2 (by decide)) (s_ixo (N := 4) hr.1 hr.2.2 (by decide)).2.2 ?_
    refine w_op (pc' := 21) dX8_keyOf_20 rfl ?_
    refine w_op (pc' := 22) (ll' := [_, _, _, _, _]) dX8_keyOf_21 rfl ?_
    refine w_op (pc' := 23) dX8_keyOf_22 rfl ?_
    refine w_op (pc' := 24) dX8_keyOf_23 rfl ?_
    refine t_getG1 (G := g_s_firsts) dX8_keyOf_24 rfl rfl (by decide) rfl (fun _ => rfl) hj ?_
    refine w_op (pc' := 28) dX8_keyOf_27 rfl ?_
    refine t_iald (F := f_s_firsts) dX8_keyOf_28 rfl (by decide) rfl (hA _ (by decide)) (s_ixo (N := 4) hr.1 hr.2.2 (by decide)) (s_ixo (N := 4) hr.1 hr.2.2 (by decide)).2.2 ?_
    refine w_icmplt (t := 46) dX8_keyOf_29 (by decide) (fun c29 => ?_) (fun c29 => ?_)
    · refine w_iconst (v := 0) dX8_keyOf_46 rfl ?_
      refine w_op (pc' := 49) (ll' := [_, _, _, _, _]) dX8_keyOf_47 rfl ?_
      refine w_op (pc' := 51) dX8_keyOf_49 rfl ?_
      refine w_ifeq (t := 73) dX8_keyOf_51 (by decide) (fun c51 => ?_) (fun c51 => ?_)
      · refine w_iconst (v := (-1)) dX8_keyOf_73 rfl ?_
        exact w_ireturn dX8_keyOf_74 ⟨rfl, s_eqi (by unfold s_ky; grind) k⟩
      · exact absurd c51 (by decide)
    · refine w_op (pc' := 33) dX8_keyOf_32 rfl ?_
      refine w_op (pc' := 34) dX8_keyOf_33 rfl ?_
      refine t_getG1 (G := g_s_lasts) dX8_keyOf_34 rfl rfl (by decide) rfl (fun _ => rfl) hj ?_
      refine w_op (pc' := 38) dX8_keyOf_37 rfl ?_
      refine t_iald (F := f_s_lasts) dX8_keyOf_38 rfl (by decide) rfl (hA _ (by decide)) (s_ixo (N := 4) hr.1 hr.2.2 (by decide)) (s_ixo (N := 4) hr.1 hr.2.2 (by decide)).2.2 ?_
      refine w_icmpgt (t := 46) dX8_keyOf_39 (by decide) (fun c39 => ?_) (fun c39 => ?_)
      · refine w_iconst (v := 0) dX8_keyOf_46 rfl ?_
        refine w_op (pc' := 49) (ll' := [_, _, _, _, _]) dX8_keyOf_47 rfl ?_
        refine w_op (pc' := 51) dX8_keyOf_49 rfl ?_
        refine w_ifeq (t := 73) dX8_keyOf_51 (by decide) (fun c51 => ?_) (fun c51 => ?_)
        · refine w_iconst (v := (-1)) dX8_keyOf_73 rfl ?_
          exact w_ireturn dX8_keyOf_74 ⟨rfl, s_eqi (by unfold s_ky; grind) k⟩
        · exact absurd c51 (by decide)
      · refine w_iconst (v := 1) dX8_keyOf_42 rfl ?_
        refine w_goto (t := 47) dX8_keyOf_43 (by decide) ?_
        refine w_op (pc' := 49) (ll' := [_, _, _, _, _]) dX8_keyOf_47 rfl ?_
        refine w_op (pc' := 51) dX8_keyOf_49 rfl ?_
        refine w_ifeq (t := 73) dX8_keyOf_51 (by decide) (fun c51 => ?_) (fun c51 => ?_)
        · exact absurd c51 (by decide)
        · refine w_op (pc' := 55) dX8_keyOf_54 rfl ?_
          refine w_iflt (t := 73) dX8_keyOf_55 (by decide) (fun c55 => ?_) (fun c55 => ?_)
          · refine w_iconst (v := (-1)) dX8_keyOf_73 rfl ?_
            exact w_ireturn dX8_keyOf_74 ⟨rfl, s_eqi (by unfold s_ky; grind) k⟩
          · refine w_op (pc' := 59) dX8_keyOf_58 rfl ?_
            refine w_bipush (v := 61) dX8_keyOf_59 rfl ?_
            refine w_icmpge (t := 73) dX8_keyOf_61 (by decide) (fun c61 => ?_) (fun c61 => ?_)
            · refine w_iconst (v := (-1)) dX8_keyOf_73 rfl ?_
              exact w_ireturn dX8_keyOf_74 ⟨rfl, s_eqi (by unfold s_ky; grind) k⟩
            · refine w_op (pc' := 65) dX8_keyOf_64 rfl ?_
              refine t_getG1 (G := g_s_keysAt) dX8_keyOf_65 rfl rfl (by decide) rfl (fun _ => rfl) hj ?_
              refine w_op (pc' := 69) dX8_keyOf_68 rfl ?_
              refine t_iald (F := f_s_keysAt) dX8_keyOf_69 rfl (by decide) rfl (hA _ (by decide)) (s_ixo (N := 61) (Int32.not_lt.mp c55) (Int32.not_le.mp c61) (by decide)) (s_ixo (N := 61) (Int32.not_lt.mp c55) (Int32.not_le.mp c61) (by decide)).2.2 ?_
              refine w_goto (t := 74) dX8_keyOf_70 (by decide) ?_
              exact w_ireturn dX8_keyOf_74 ⟨rfl, s_eqi (by unfold s_ky; grind) k⟩
  · refine w_iconst (v := (-1)) dX8_keyOf_8 rfl ?_
    exact w_ireturn dX8_keyOf_9 ⟨rfl, s_eqi (by unfold s_ky; grind) k⟩
set_option maxRecDepth 100000 in
set_option maxHeartbeats 4000000 in
theorem c_X8_putPlace {X : e_XT} {d : Nat} {p : e_Sp} {I : e_I} {J : e_Jt} {c : Nat × Nat} {w : e_Rw1} {Q : e_Rt → e_SS → Prop} {j : Nat} (hj : p.2.1 T_STOP j = true) (hA : ∀ t, t ∈ s_sT → p.2.1 t j = true) {x y : Int32} (k : Q (.inl none) (p, s_pp I j x y, J, c, w)) : s_c X (d + 0) 95 [.ref (p.1 T_STOP j), .int x, .int y] (p, I, J, c, w) Q := by
  refine m_X8_putPlace (Nat.le_of_ble_eq_true rfl) ?_
  show s_w _ _ _ 0 _ _ _ _
  refine w_op (pc' := 1) dX8_putPlace_0 rfl ?_
  refine w_iflt (t := 34) dX8_putPlace_1 (by decide) (fun c1 => ?_) (fun c1 => ?_)
  · exact w_return dX8_putPlace_34 ⟨rfl, (by unfold s_pp at k; rw [if_neg (by grind)] at k; exact k)⟩
  · refine w_op (pc' := 5) dX8_putPlace_4 rfl ?_
    refine w_bipush (v := 61) dX8_putPlace_5 rfl ?_
    refine w_icmpge (t := 34) dX8_putPlace_7 (by decide) (fun c7 => ?_) (fun c7 => ?_)
    · exact w_return dX8_putPlace_34 ⟨rfl, (by unfold s_pp at k; rw [if_neg (by grind)] at k; exact k)⟩
    · refine w_op (pc' := 11) dX8_putPlace_10 rfl ?_
      refine w_iflt (t := 34) dX8_putPlace_11 (by decide) (fun c11 => ?_) (fun c11 => ?_)
      · exact w_return dX8_putPlace_34 ⟨rfl, (by unfold s_pp at k; rw [if_neg (by grind)] at k; exact k)⟩
      · refine w_op (pc' := 15) dX8_putPlace_14 rfl ?_
        refine w_bipush (v := 61) dX8_putPlace_15 rfl ?_
        refine w_icmpge (t := 34) dX8_putPlace_17 (by decide) (fun c17 => ?_) (fun c17 => ?_)
        · exact w_return dX8_putPlace_34 ⟨rfl, (by unfold s_pp at k; rw [if_neg (by grind)] at k; exact k)⟩
        · refine w_op (pc' := 21) dX8_putPlace_20 rfl ?_
          refine t_getG1 (G := g_s_places) dX8_putPlace_21 rfl rfl (by decide) rfl (fun _ => rfl) hj ?_
          refine w_op (pc' := 25) dX8_putPlace_24 rfl ?_
          refine w_op (pc' := 26) dX8_putPlace_25 rfl ?_
          refine t_iast (F := f_s_places) dX8_putPlace_26 rfl (by decide) (by decide) rfl (hA _ (by decide)) (s_ixo (N := 61) (Int32.not_lt.mp c1) (Int32.not_le.mp c7) (by decide)) (s_ixo (N := 61) (Int32.not_lt.mp c1) (Int32.not_le.mp c7) (by decide)).2.2 ?_
          refine w_op (pc' := 28) dX8_putPlace_27 rfl ?_
          refine t_getG1 (G := g_s_keysAt) dX8_putPlace_28 rfl rfl (by decide) rfl (fun _ => rfl) hj ?_
          refine w_op (pc' := 32) dX8_putPlace_31 rfl ?_
          refine w_op (pc' := 33) dX8_putPlace_32 rfl ?_
          refine t_iast (F := f_s_keysAt) dX8_putPlace_33 rfl (by decide) (by decide) rfl (hA _ (by decide)) (s_ixo (N := 61) (Int32.not_lt.mp c11) (Int32.not_le.mp c17) (by decide)) (s_ixo (N := 61) (Int32.not_lt.mp c11) (Int32.not_le.mp c17) (by decide)).2.2 ?_
          exact w_return dX8_putPlace_34 ⟨rfl, (by unfold s_pp at k; rw [if_pos ⟨Int32.not_lt.mp c1, Int32.not_le.mp c7, Int32.not_lt.mp c11, Int32.not_le.mp c17⟩] at k; exact k)⟩
set_option maxRecDepth 100000 in
set_option maxHeartbeats 4000000 in
theorem c_X8_changePlaces {X : e_XT} {d : Nat} {p : e_Sp} {I : e_I} {J : e_Jt} {c : Nat × Nat} {w : e_Rw1} {Q : e_Rt → e_SS → Prop} {j : Nat} (hj : p.2.1 T_STOP j = true) (hA : ∀ t, t ∈ s_sT → p.2.1 t j = true) {x y : Int32} (k : Q (.inl none) (p, s_chp I j x y, J, c, w)) : s_c X (d + 1) 94 [.ref (p.1 T_STOP j), .int x, .int y] (p, I, J, c, w) Q := by
  refine m_X8_changePlaces (Nat.le_of_ble_eq_true rfl) ?_
  show s_w _ _ _ 0 _ _ _ _
  refine w_op (pc' := 1) dX8_changePlaces_0 rfl ?_
  refine w_op (pc' := 2) dX8_changePlaces_1 rfl ?_
  refine t_callV (t := T_STOP) (As := [_]) dX8_changePlaces_2 rfl rM_X8_placeOf (by decide) rfl rfl (by decide) (by decide) (Nat.le_of_ble_eq_true rfl) rfl hj (c_X8_placeOf hj hA ?_)
  show s_w _ _ _ 5 _ _ _ _
  refine w_op (pc' := 6) (ll' := [_, _, _, _, _]) dX8_changePlaces_5 rfl ?_
  refine w_op (pc' := 7) dX8_changePlaces_6 rfl ?_
  refine w_op (pc' := 8) dX8_changePlaces_7 rfl ?_
  refine t_callV (t := T_STOP) (As := [_]) dX8_changePlaces_8 rfl rM_X8_placeOf (by decide) rfl rfl (by decide) (by decide) (Nat.le_of_ble_eq_true rfl) rfl hj (c_X8_placeOf hj hA ?_)
  show s_w _ _ _ 11 _ _ _ _
  refine w_op (pc' := 13) (ll' := [_, _, _, _, _]) dX8_changePlaces_11 rfl ?_
  refine w_op (pc' := 14) dX8_changePlaces_13 rfl ?_
  refine w_op (pc' := 15) dX8_changePlaces_14 rfl ?_
  refine w_op (pc' := 17) dX8_changePlaces_15 rfl ?_
  refine t_callV (t := T_STOP) (As := [_, _]) dX8_changePlaces_17 rfl rM_X8_putPlace (by decide) rfl rfl (by decide) (by decide) (Nat.le_of_ble_eq_true rfl) rfl hj (c_X8_putPlace hj hA ?_)
  show s_w _ _ _ 20 _ _ _ _
  refine w_op (pc' := 21) dX8_changePlaces_20 rfl ?_
  refine w_op (pc' := 22) dX8_changePlaces_21 rfl ?_
  refine w_op (pc' := 23) dX8_changePlaces_22 rfl ?_
  refine t_callV (t := T_STOP) (As := [_, _]) dX8_changePlaces_23 rfl rM_X8_putPlace (by decide) rfl rfl (by decide) (by decide) (Nat.le_of_ble_eq_true rfl) rfl hj (c_X8_putPlace hj hA ?_)
  show s_w _ _ _ 26 _ _ _ _
  exact w_return dX8_changePlaces_26 ⟨rfl, k⟩
set_option maxRecDepth 100000 in
set_option maxHeartbeats 4000000 in
theorem c_X8_addRow {X : e_XT} {d : Nat} {p : e_Sp} {I : e_I} {J : e_Jt} {c : Nat × Nat} {w : e_Rw1} {Q : e_Rt → e_SS → Prop} {j : Nat} (hj : p.2.1 T_STOP j = true) (hA : ∀ t, t ∈ s_sT → p.2.1 t j = true) {x y z t : Int32} (k0 : (I f_s_rows j < 0 ∨ 4 ≤ I f_s_rows j) → Q (.inl (some (.int 0))) (p, I, J, c, w)) (k1 : 0 ≤ I f_s_rows j → I f_s_rows j < 4 → Q (.inl (some (.int 1))) (p, s_addr I j x y z t, J, c, w)) : s_c X (d + 0) 93 [.ref (p.1 T_STOP j), .int x, .int y, .int z, .int t] (p, I, J, c, w) Q := by
  refine m_X8_addRow (Nat.le_of_ble_eq_true rfl) ?_
  show s_w _ _ _ 0 _ _ _ _
  refine w_op (pc' := 1) dX8_addRow_0 rfl ?_
  refine t_getI (F := f_s_rows) dX8_addRow_1 rfl rfl (by decide) rfl ⟨rfl, fun _ => rfl⟩ hj ?_
  refine w_iflt (t := 15) dX8_addRow_4 (by decide) (fun c4 => ?_) (fun c4 => ?_)
  · refine w_iconst (v := 0) dX8_addRow_15 rfl ?_
    exact w_ireturn dX8_addRow_16 ⟨s_rcb (Or.inl rfl), k0 (Or.inl c4)⟩
  · refine w_op (pc' := 8) dX8_addRow_7 rfl ?_
    refine t_getI (F := f_s_rows) dX8_addRow_8 rfl rfl (by decide) rfl ⟨rfl, fun _ => rfl⟩ hj ?_
    refine w_iconst (v := 4) dX8_addRow_11 rfl ?_
    refine w_icmplt (t := 17) dX8_addRow_12 (by decide) (fun c12 => ?_) (fun c12 => ?_)
    · refine w_op (pc' := 18) dX8_addRow_17 rfl ?_
      refine t_getG1 (G := g_s_ranks) dX8_addRow_18 rfl rfl (by decide) rfl (fun _ => rfl) hj ?_
      refine w_op (pc' := 22) dX8_addRow_21 rfl ?_
      refine t_getI (F := f_s_rows) dX8_addRow_22 rfl rfl (by decide) rfl ⟨rfl, fun _ => rfl⟩ hj ?_
      refine w_op (pc' := 26) dX8_addRow_25 rfl ?_
      refine t_iast (F := f_s_ranks) dX8_addRow_26 rfl (by decide) (by decide) rfl (hA _ (by decide)) (s_ixo (N := 4) (Int32.not_lt.mp c4) c12 (by decide)) (s_ixo (N := 4) (Int32.not_lt.mp c4) c12 (by decide)).2.2 ?_
      refine w_op (pc' := 28) dX8_addRow_27 rfl ?_
      refine t_getG1 (G := g_s_offsets) dX8_addRow_28 rfl rfl (by decide) rfl (fun _ => rfl) hj ?_
      refine w_op (pc' := 32) dX8_addRow_31 rfl ?_
      refine t_getI (F := f_s_rows) dX8_addRow_32 rfl rfl (by decide) rfl ⟨rfl, fun _ => rfl⟩ hj ?_
      refine w_op (pc' := 36) dX8_addRow_35 rfl ?_
      refine t_iast (F := f_s_offsets) dX8_addRow_36 rfl (by decide) (by decide) rfl (hA _ (by decide)) (s_ixo (N := 4) (Int32.not_lt.mp c4) c12 (by decide)) (s_ixo (N := 4) (Int32.not_lt.mp c4) c12 (by decide)).2.2 ?_
      refine w_op (pc' := 38) dX8_addRow_37 rfl ?_
      refine t_getG1 (G := g_s_firsts) dX8_addRow_38 rfl rfl (by decide) rfl (fun _ => rfl) hj ?_
      refine w_op (pc' := 42) dX8_addRow_41 rfl ?_
      refine t_getI (F := f_s_rows) dX8_addRow_42 rfl rfl (by decide) rfl ⟨rfl, fun _ => rfl⟩ hj ?_
      refine w_op (pc' := 46) dX8_addRow_45 rfl ?_
      refine t_iast (F := f_s_firsts) dX8_addRow_46 rfl (by decide) (by decide) rfl (hA _ (by decide)) (s_ixo (N := 4) (Int32.not_lt.mp c4) c12 (by decide)) (s_ixo (N := 4) (Int32.not_lt.mp c4) c12 (by decide)).2.2 ?_
      refine w_op (pc' := 48) dX8_addRow_47 rfl ?_
      refine t_getG1 (G := g_s_lasts) dX8_addRow_48 rfl rfl (by decide) rfl (fun _ => rfl) hj ?_
      refine w_op (pc' := 52) dX8_addRow_51 rfl ?_
      refine t_getI (F := f_s_rows) dX8_addRow_52 rfl rfl (by decide) rfl ⟨rfl, fun _ => rfl⟩ hj ?_
      refine w_op (pc' := 57) dX8_addRow_55 rfl ?_
      refine t_iast (F := f_s_lasts) dX8_addRow_57 rfl (by decide) (by decide) rfl (hA _ (by decide)) (s_ixo (N := 4) (Int32.not_lt.mp c4) c12 (by decide)) (s_ixo (N := 4) (Int32.not_lt.mp c4) c12 (by decide)).2.2 ?_
      refine w_op (pc' := 59) dX8_addRow_58 rfl ?_
      refine w_op (pc' := 60) dX8_addRow_59 rfl ?_
      refine t_getI (F := f_s_rows) dX8_addRow_60 rfl rfl (by decide) rfl ⟨rfl, fun _ => rfl⟩ hj ?_
      refine w_iconst (v := 1) dX8_addRow_63 rfl ?_
      refine w_op (pc' := 65) dX8_addRow_64 rfl ?_
      refine t_putI (F := f_s_rows) dX8_addRow_65 rfl rfl (by decide) (by decide) rfl rfl (Or.inl rfl) hj ?_
      refine w_iconst (v := 1) dX8_addRow_68 rfl ?_
      exact w_ireturn dX8_addRow_69 ⟨s_rcb (Or.inr rfl), k1 (Int32.not_lt.mp c4) c12⟩
    · refine w_iconst (v := 0) dX8_addRow_15 rfl ?_
      exact w_ireturn dX8_addRow_16 ⟨s_rcb (Or.inl rfl), k0 (Or.inr (Int32.not_lt.mp c12))⟩
set_option maxRecDepth 100000 in
set_option maxHeartbeats 4000000 in
theorem l_X8_displaced {X : e_XT} {d : Nat} {p : e_Sp} {I : e_I} {J : e_Jt} {c : Nat × Nat} {w : e_Rw1} {Q : e_Rt → e_SS → Prop} {j : Nat} (hj : p.2.1 T_STOP j = true) (hA : ∀ t, t ∈ s_sT → p.2.1 t j = true) (k : Q (.inl (some (.int (nI (s_dsp I j))))) (p, I, J, c, w)) : ∀ (n : Nat) (i : Nat), (h1 : i ≤ 61) → (hn : 61 - i < n) → s_w X (d + 0) K_X8_displaced 4 [some (.ref (p.1 T_STOP j)), some (.int (nI (s_sum i (fun i => if I f_s_places (j * 61 + i) = nI i then 0 else 1)))), some (.int (nI i))] [] (p, I, J, c, w) (fun r S' => e_rcr (some FieldType.int) r = true ∧ Q r S') := by
  intro n
  induction n with
  | zero =>
    intro i h1 hn
    exact absurd hn (Nat.not_lt_zero _)
  | succ n ih =>
    intro i h1 hn
    refine w_op (pc' := 5) dX8_displaced_4 rfl ?_
    refine w_bipush (v := 61) dX8_displaced_5 rfl ?_
    refine w_icmpge (t := 29) dX8_displaced_7 (by decide) (fun c7 => ?_) (fun c7 => ?_)
    · have hi : 61 ≤ i := (nI_leI (a := 61) (by omega) (by omega)).mp c7
      refine w_op (pc' := 30) dX8_displaced_29 rfl ?_
      exact w_ireturn dX8_displaced_30 ⟨rfl, (by obtain rfl : i = 61 := (by omega); exact k)⟩
    · have hi : i < 61 := Nat.lt_of_not_le (fun z => c7 ((nI_leI (a := 61) (by omega) (by omega)).mpr z))
      refine w_op (pc' := 11) dX8_displaced_10 rfl ?_
      refine t_getG1 (G := g_s_places) dX8_displaced_11 rfl rfl (by decide) rfl (fun _ => rfl) hj ?_
      refine w_op (pc' := 15) dX8_displaced_14 rfl ?_
      refine t_iald (F := f_s_places) dX8_displaced_15 rfl (by decide) rfl (hA _ (by decide)) (s_ix.nI (N := 61) hi (by decide)) hi ?_
      refine w_op (pc' := 17) dX8_displaced_16 rfl ?_
      refine w_icmpeq (t := 23) dX8_displaced_17 (by decide) (fun c17 => ?_) (fun c17 => ?_)
      · refine w_op (pc' := 26) (ll' := [_, _, _]) dX8_displaced_23 rfl ?_
        refine w_goto (t := 4) dX8_displaced_26 (by decide) ?_
        rw [show nI i + Int32.ofInt 1 = nI (i + 1) from nI_1 i]
        have k9 := ih (i + 1) (by omega) (by omega)
        rw [show s_sum (i + 1) (fun i => if I f_s_places (j * 61 + i) = nI i then 0 else 1) = s_sum i (fun i => if I f_s_places (j * 61 + i) = nI i then 0 else 1) + 0 from congrArg (_ + ·) (if_pos c17)] at k9
        exact k9
      · refine w_op (pc' := 23) (ll' := [_, _, _]) dX8_displaced_20 rfl ?_
        refine w_op (pc' := 26) (ll' := [_, _, _]) dX8_displaced_23 rfl ?_
        refine w_goto (t := 4) dX8_displaced_26 (by decide) ?_
        rw [show nI i + Int32.ofInt 1 = nI (i + 1) from nI_1 i]
        rw [show ∀ a : Nat, nI a + Int32.ofInt 1 = nI (a + 1) from fun a => nI_1 a]
        have k9 := ih (i + 1) (by omega) (by omega)
        rw [show s_sum (i + 1) (fun i => if I f_s_places (j * 61 + i) = nI i then 0 else 1) = s_sum i (fun i => if I f_s_places (j * 61 + i) = nI i then 0 else 1) + 1 from congrArg (_ + ·) (if_neg c17)] at k9
        exact k9
set_option maxRecDepth 100000 in
set_option maxHeartbeats 4000000 in
theorem c_X8_displaced {X : e_XT} {d : Nat} {p : e_Sp} {I : e_I} {J : e_Jt} {c : Nat × Nat} {w : e_Rw1} {Q : e_Rt → e_SS → Prop} {j : Nat} (hj : p.2.1 T_STOP j = true) (hA : ∀ t, t ∈ s_sT → p.2.1 t j = true) (k : Q (.inl (some (.int (nI (s_dsp I j))))) (p, I, J, c, w)) : s_c X (d + 0) 96 [.ref (p.1 T_STOP j)] (p, I, J, c, w) Q := by
  refine m_X8_displaced (Nat.le_of_ble_eq_true rfl) ?_
  show s_w _ _ _ 0 _ _ _ _
  refine w_iconst (v := 0) dX8_displaced_0 rfl ?_
  refine w_op (pc' := 2) (ll' := [_, _, _]) dX8_displaced_1 rfl ?_
  refine w_iconst (v := 0) dX8_displaced_2 rfl ?_
  refine w_op (pc' := 4) (ll' := [_, _, _]) dX8_displaced_3 rfl ?_
  exact l_X8_displaced hj hA k 62 0 (Nat.zero_le _) (by omega)
