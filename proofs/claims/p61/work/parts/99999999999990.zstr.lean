/-! 99999999999990: the law's own numbers: a cell of the script, a number drawn of it, a letter of a text constant -/
/-- the index is right, whatever makes the exception -/
theorem z_ck3 {X : e_XT} {d : Nat} {x y : Int32} {v : Value} {h : e_Hp} (hv : v = .ref (e_xb + 20) ∨ v = .null) (h0 : 0 ≤ x) (h1 : x < y) : e_Mt X (d + 0) 384 [.int x, .int y, v] h (.inl (some (.int x))) h := by
  have j5 : e_J X (d + 0) K_J3_checkIndex_8e157 17 [some (.int x), some (.int y), some v] [.int x] h (.inl (some (.int x))) h := e_J.ret (v := some (.int x)) dJ3_checkIndex_8e157_17 rfl
  have j4 : e_J X (d + 0) K_J3_checkIndex_8e157 16 [some (.int x), some (.int y), some v] [] h (.inl (some (.int x))) h := e_J.op (pc' := 17) rfl dJ3_checkIndex_8e157_16 j5
  have j3 : e_J X (d + 0) K_J3_checkIndex_8e157 6 [some (.int x), some (.int y), some v] [.int y, .int x] h (.inl (some (.int x))) h := by
    have hj : e_jmp (decide (x < y)) 6 10 (6 + 3) [some (.int x), some (.int y), some v] [] = some (16, [some (.int x), some (.int y), some v], []) := by
      rw [decide_eq_true h1]
      rfl
    refine e_J.op (pc' := 16) (ll' := [some (.int x), some (.int y), some v]) (st' := []) ?_ dJ3_checkIndex_8e157_6 j4
    exact hj
  have j2 : e_J X (d + 0) K_J3_checkIndex_8e157 4 [some (.int x), some (.int y), some v] [] h (.inl (some (.int x))) h := e_J.op (pc' := 5) (st' := [.int x]) rfl dJ3_checkIndex_8e157_4 (e_J.op (pc' := 6) (st' := [.int y, .int x]) rfl dJ3_checkIndex_8e157_5 j3)
  have j1 : e_J X (d + 0) K_J3_checkIndex_8e157 1 [some (.int x), some (.int y), some v] [.int x] h (.inl (some (.int x))) h := by
    refine e_J.op (pc' := 4) (ll' := [some (.int x), some (.int y), some v]) (st' := []) ?_ dJ3_checkIndex_8e157_1 j2
    refine e_opG_some rfl rfl rfl rfl rfl rfl ?_
    show e_jmp (decide (x < 0)) 1 8 4 _ [] = _
    rw [decide_eq_false (Int32.not_lt.mpr h0)]
    rfl
  have e0 : e_slx [Value.int x, .int y, v] = [some (.int x), some (.int y), some v] := by
    rcases hv with rfl | rfl <;> rfl
  refine e_Mt.of (ini := false) rM_J3_checkIndex_8e157 rC_J3_checkIndex_8e157 rfl (fun z => by cases z) ?_ rfl ?_
  · rw [e0]; exact Nat.le_refl 3
  · show e_J X (d + 0) K_J3_checkIndex_8e157 0 (e_ent0 [Value.int x, .int y, v] 3) [] h (.inl (some (.int x))) h
    have e1 : e_ent0 [Value.int x, .int y, v] 3 = [some (.int x), some (.int y), some v] := by
      unfold e_ent0
      rw [e0]; rfl
    rw [e1]
    exact e_J.op (pc' := 1) (st' := [.int x]) rfl dJ3_checkIndex_8e157_0 j1
theorem c_scheck {X : e_XT} {d : Nat} {p : e_Sp} {I : e_I} {J : e_Jt} {c : Nat × Nat} {w : e_Rw1} {Q : e_Rt → e_SS → Prop} {x y : Int32} (h0 : 0 ≤ x) (h1 : x < y) (k : Q (.inl none) (p, I, J, c, w)) : s_c X (d + 1) 395 [.int x, .int y] (p, I, J, c, w) Q := by
  refine m_J0_checkIndex_df160 (Nat.le_of_ble_eq_true rfl) ?_
  show s_w _ _ _ 0 _ _ _ _
  refine w_op (pc' := 1) dJ0_checkIndex_df160_0 rfl ?_
  refine w_op (pc' := 2) dJ0_checkIndex_df160_1 rfl ?_
  have j : s_w X (d + 1) K_J0_checkIndex_df160 8 (e_ent0 [Value.int x, .int y] 2) [.int x] (p, I, J, c, w) (fun r S' => e_rcr none r = true ∧ Q r S') := by
    refine w_op (pc' := 9) dJ0_checkIndex_df160_8 rfl ?_
    exact w_return dJ0_checkIndex_df160_9 ⟨rfl, k⟩
  intro h hs
  obtain ⟨r, h', S', q, z, cc⟩ := j h hs
  refine ⟨r, h', S', q, z, ?_⟩
  refine e_J.sioobe rfl dJ0_checkIndex_df160_2 ?_ ?_
  · exact e_J.call (As := [.int x, .int y, .ref (e_xb + 20)]) (rest := []) (b := 0) (z_ck3 (.inl rfl) h0 h1) rM_J3_checkIndex_8e157 rfl (by decide) (fun z => absurd rfl z) (Or.inl ⟨rfl, rfl, rfl, rfl⟩) rfl (by decide) dJ0_checkIndex_df160_5 cc
  · exact e_J.call (As := [.int x, .int y, .null]) (rest := []) (b := 0) (z_ck3 (.inr rfl) h0 h1) rM_J3_checkIndex_8e157 rfl (by decide) (fun z => absurd rfl z) (Or.inl ⟨rfl, rfl, rfl, rfl⟩) rfl (by decide) dJ0_checkIndex_df160_5 cc
theorem c_islatin {X : e_XT} {d i : Nat} {p : e_Sp} {I : e_I} {J : e_Jt} {c : Nat × Nat} {w : e_Rw1} {Q : e_Rt → e_SS → Prop} (hi : i < 5) (k : Q (.inl (some (.int 1))) (p, I, J, c, w)) : s_c X (d + 0) 394 [.ref (e_xb + (10 + i))] (p, I, J, c, w) Q := by
  refine m_J0_isLatin1_aae02 (Nat.le_of_ble_eq_true rfl) ?_
  show s_w _ _ _ 0 _ _ _ _
  refine w_compact rfl dJ0_isLatin1_aae02_0 ?_
  refine w_ifeq (t := 17) dJ0_isLatin1_aae02_3 (by decide) (fun z => absurd z (by decide)) (fun _ => ?_)
  refine w_op (pc' := 7) dJ0_isLatin1_aae02_6 rfl ?_
  refine w_coder hi rfl dJ0_isLatin1_aae02_7 ?_
  refine w_ifne (t := 17) dJ0_isLatin1_aae02_10 (by decide) (fun z => absurd rfl z) (fun _ => ?_)
  refine w_iconst (v := 1) dJ0_isLatin1_aae02_13 rfl ?_
  refine w_goto (t := 18) dJ0_isLatin1_aae02_14 (by decide) ?_
  exact w_ireturn dJ0_isLatin1_aae02_18 ⟨rfl, k⟩
/-- the letter at a place of a text constant -/
def z_ch (i y : Nat) : Int32 := (e_SByt.getD i []).getD y 0
theorem z_chc : ∀ i, i < 5 → ∀ y, y < e_SLen.getD i 0 → ((((e_SByt.getD i []).getD y 0) &&& 255).toUInt32 % 65536).toInt32 = z_ch i y ∧ vp_nar .char (z_ch i y) = z_ch i y := by decide
theorem z_len : ∀ i, i < 5 → e_SLen.getD i 0 < 5 := by decide
theorem c_lcharAt {X : e_XT} {d i y : Nat} {p : e_Sp} {I : e_I} {J : e_Jt} {c : Nat × Nat} {w : e_Rw1} {Q : e_Rt → e_SS → Prop} (hi : i < 5) (hy : y < e_SLen.getD i 0) (k : Q (.inl (some (.int (z_ch i y)))) (p, I, J, c, w)) : s_c X (d + 2) 396 [.ref (e_xb + (15 + i)), .int (nI y)] (p, I, J, c, w) Q := by
  have h5 := z_len i hi
  have e := z_chc i hi y hy
  refine m_J1_charAt_3b067 (Nat.le_of_ble_eq_true rfl) ?_
  show s_w _ _ _ 0 _ _ _ _
  refine w_op (pc' := 1) dJ1_charAt_3b067_0 rfl ?_
  refine w_op (pc' := 2) dJ1_charAt_3b067_1 rfl ?_
  refine w_blen hi dJ1_charAt_3b067_2 ?_
  refine t_callS (As := [_, _]) dJ1_charAt_3b067_3 rfl rM_J0_checkIndex_df160 (by decide) rfl rfl (by decide) (Nat.le_of_ble_eq_true rfl) (c_scheck (nI_pos' (by omega)) ((nI_ltI (by omega) (by omega)).mpr hy) ?_)
  show s_w _ _ _ 6 _ _ _ _
  refine w_op (pc' := 7) dJ1_charAt_3b067_6 rfl ?_
  refine w_op (pc' := 8) dJ1_charAt_3b067_7 rfl ?_
  refine w_sbald hi (decide_eq_true ⟨nI_pos' (by omega), by rw [nI_clamp (by omega)]; exact hy⟩) dJ1_charAt_3b067_8 ?_
  rw [nI_clamp (show y < 2 ^ 31 by omega)]
  refine w_sipush (v := 255) dJ1_charAt_3b067_9 rfl ?_
  refine w_op (pc' := 13) dJ1_charAt_3b067_12 rfl ?_
  refine w_op (pc' := 14) dJ1_charAt_3b067_13 rfl ?_
  refine w_ireturn dJ1_charAt_3b067_14 ?_
  rw [e.1]
  exact ⟨s_rcc e.2, k⟩
theorem c_charAt {X : e_XT} {d i y : Nat} {p : e_Sp} {I : e_I} {J : e_Jt} {c : Nat × Nat} {w : e_Rw1} {Q : e_Rt → e_SS → Prop} (hi : i < 5) (hy : y < e_SLen.getD i 0) (k : Q (.inl (some (.int (z_ch i y)))) (p, I, J, c, w)) : s_c X (d + 3) 393 [.ref (e_xb + (10 + i)), .int (nI y)] (p, I, J, c, w) Q := by
  refine m_J0_charAt_5068e (Nat.le_of_ble_eq_true rfl) ?_
  show s_w _ _ _ 0 _ _ _ _
  refine w_op (pc' := 1) dJ0_charAt_5068e_0 rfl ?_
  refine w_callStr (As := []) (rest := []) hi dJ0_charAt_5068e_1 rfl rM_J0_isLatin1_aae02 (by decide) rfl rfl (by decide) rfl (Nat.le_of_ble_eq_true rfl) (c_islatin (d := d + 2) hi ?_)
  show s_w _ _ _ 4 _ _ _ _
  refine w_ifeq (t := 16) dJ0_charAt_5068e_4 (by decide) (fun z => absurd z (by decide)) (fun _ => ?_)
  refine w_op (pc' := 8) dJ0_charAt_5068e_7 rfl ?_
  refine w_value hi rfl dJ0_charAt_5068e_8 ?_
  refine w_op (pc' := 12) dJ0_charAt_5068e_11 rfl ?_
  refine t_callS (As := [_, _]) dJ0_charAt_5068e_12 rfl rM_J1_charAt_3b067 (by decide) rfl rfl (by decide) (Nat.le_of_ble_eq_true rfl) (c_lcharAt hi hy ?_)
  show s_w _ _ _ 15 _ _ _ _
  exact w_ireturn dJ0_charAt_5068e_15 ⟨s_rcc (z_chc i hi y hy).2, k⟩
/-- a cell of the script -/
def z_cell (X : e_XT) (k : Nat) : Int32 := if k < (X 0).1 then (X 0).2 k else 40503 * nI k
theorem c_cell {X : e_XT} {d k : Nat} {p : e_Sp} {I : e_I} {J : e_Jt} {c : Nat × Nat} {w : e_Rw1} {Q : e_Rt → e_SS → Prop} (hX : (X 0).1 < 2147483648) (hc : c.1 < e_xb) (hk : k < 100000) (kk : Q (.inl (some (.int (z_cell X k)))) (p, I, J, c, w)) : s_c X (d + 0) 398 [.ref (e_xb + 0), .int (nI k)] (p, I, J, c, w) Q := by
  refine m_L_cell (Nat.le_of_ble_eq_true rfl) ?_
  show s_w _ _ _ 0 _ _ _ _
  refine w_op (pc' := 1) dL_cell_0 rfl ?_
  refine w_op (pc' := 2) dL_cell_1 rfl ?_
  refine w_xlen (g := 0) dL_cell_2 (by decide) hc ?_
  refine w_icmpge (t := 12) dL_cell_3 (by decide) (fun c1 => ?_) (fun c1 => ?_)
  · have h : ¬ k < (X 0).1 := fun z => absurd c1 (Int32.not_le.mpr ((nI_ltI (by omega) hX).mpr z))
    refine w_ldci dL_cell_12 rfl ?_
    refine w_op (pc' := 15) dL_cell_14 rfl ?_
    refine w_op (pc' := 16) dL_cell_15 rfl ?_
    refine w_ireturn dL_cell_16 ⟨rfl, ?_⟩
    unfold z_cell at kk
    rw [if_neg h] at kk
    exact kk
  · have h : k < (X 0).1 := (nI_ltI (by omega) hX).mp (Int32.not_le.mp c1)
    refine w_op (pc' := 7) dL_cell_6 rfl ?_
    refine w_op (pc' := 8) dL_cell_7 rfl ?_
    refine w_xald (g := 0) (n := k) dL_cell_8 (by decide) (s_ix.nI h (by omega)) hc ?_
    refine w_goto (t := 16) dL_cell_9 (by decide) ?_
    refine w_ireturn dL_cell_16 ⟨rfl, ?_⟩
    unfold z_cell at kk
    rw [if_pos h] at kk
    exact kk
theorem z_ush (x : Int32) : ∃ j, j < 2147483648 ∧ (x.toUInt32 >>> ((1 : Int32).toUInt32 &&& Int32.toUInt32 31)).toInt32 = nI j := by
  refine ⟨x.toBitVec.toNat / 2 ^ 1, ?_, ?_⟩
  · have := x.toBitVec.isLt
    omega
  · have h := pk_ushr x 1 1 (by decide)
    apply Int32.toBitVec_inj.mp
    apply BitVec.eq_of_toNat_eq
    rw [h]
    have h2 := x.toBitVec.isLt
    show _ = (nI (x.toBitVec.toNat / 2 ^ 1)).toBitVec.toNat
    rw [pk_tn (by omega)]
theorem e_rem_ok {nL pc : Nat} {ll : e_LL} {st : List Value} {x y : Int32} (h : ¬ y = 0) : e_op nL .irem 1 pc ll (.int y :: .int x :: st) = some (pc + 1, ll, .int (x - x / y * y) :: st) := by
  have hA : e_opA .irem 1 pc ll (.int y :: .int x :: st) = none := rfl
  have hB : e_opB .irem 1 pc ll (.int y :: .int x :: st) = none := rfl
  have hC : e_opC nL .irem 1 pc ll (.int y :: .int x :: st) = none := rfl
  have hD : e_opD .irem 1 pc ll (.int y :: .int x :: st) = some (pc + 1, ll, .int (x - x / y * y) :: st) := if_neg h
  unfold e_op
  simp only [hA, hB, hC, hD]
theorem c_pick {X : e_XT} {d k n : Nat} {p : e_Sp} {I : e_I} {J : e_Jt} {c : Nat × Nat} {w : e_Rw1} {Q : e_Rt → e_SS → Prop} (hX : (X 0).1 < 2147483648) (hc : c.1 < e_xb) (hk : k < 100000) (hn : 0 < n) (hn2 : n < 1000) (kk : ∀ v, v < n → Q (.inl (some (.int (nI v)))) (p, I, J, c, w)) : s_c X (d + 1) 397 [.ref (e_xb + 0), .int (nI k), .int (nI n)] (p, I, J, c, w) Q := by
  refine m_L_pick (Nat.le_of_ble_eq_true rfl) ?_
  show s_w _ _ _ 0 _ _ _ _
  refine w_op (pc' := 1) dL_pick_0 rfl ?_
  refine w_op (pc' := 2) dL_pick_1 rfl ?_
  refine t_callS (As := [_, _]) (rest := []) dL_pick_2 rfl rM_L_cell (by decide) rfl rfl (by decide) (Nat.le_of_ble_eq_true rfl) (c_cell hX hc hk ?_)
  show s_w _ _ _ 5 _ _ _ _
  refine w_iconst (v := 1) dL_pick_5 rfl ?_
  refine w_op (pc' := 7) dL_pick_6 rfl ?_
  refine w_op (pc' := 8) dL_pick_7 rfl ?_
  obtain ⟨j, hj, ej⟩ := z_ush (z_cell X k)
  rw [ej]
  have hz : ¬ nI n = 0 := nI_ne0 hn (by omega)
  refine w_op (pc' := 9) (st' := [.int (nI j - nI j / nI n * nI n)]) dL_pick_8 (e_rem_ok hz) ?_
  rw [pk_rem hj hn (by omega)]
  exact w_ireturn dL_pick_9 ⟨rfl, kk _ (Nat.mod_lt _ hn)⟩
