/-! 41: the JDK's members (printed by wip/whole/p41.py) -/
def s_max (x y : Int32) : Int32 := if x < y then y else x
def s_min (x y : Int32) : Int32 := if y < x then y else x
def s_abs (x : Int32) : Int32 := if x < 0 then -x else x
def s_fill (I : e_I) (F n : Nat) (x : Int32) : e_I := fun F' j => if F' = F ∧ j < n then x else I F' j
theorem s_fill_F {I : e_I} {F n F' j : Nat} {x : Int32} (h : F' ≠ F) : s_fill I F n x F' j = I F' j := if_neg (fun z => h z.1)
theorem s_fill_s {I : e_I} {F n j : Nat} {x : Int32} (h : j < n) : s_fill I F n x F j = x := if_pos ⟨rfl, h⟩
theorem s_fill_0 {I : e_I} {F : Nat} {x : Int32} : s_fill I F 0 x = I := by funext F' j; exact if_neg (fun z => Nat.not_lt_zero _ z.2)
theorem s_fill_up {I : e_I} {F n : Nat} {x : Int32} : s_up (s_fill I F n x) F n x = s_fill I F (n + 1) x := by
  funext F' j
  unfold s_up s_fill
  by_cases h : F' = F
  · subst h
    by_cases h2 : j = n
    · subst h2; simp
    · by_cases h3 : j < n
      · simp [h2, h3, Nat.lt_succ_of_lt h3]
      · simp [h2, h3, show ¬ j < n + 1 by omega]
  · simp [h]
theorem w_show {X : e_XT} {d : Nat} {K : e_KT} {pc : Nat} {ll : e_LL} {st : List Value} {S S' : e_SS} {Q : e_Rt → e_SS → Prop} (h : S = S') (k : s_w X d K pc ll st S' Q) : s_w X d K pc ll st S Q := h ▸ k
/-- what the heap says of the shape may be used -/
theorem w_use {X : e_XT} {d : Nat} {K : e_KT} {pc : Nat} {ll : e_LL} {st : List Value} {S : e_SS} {Q : e_Rt → e_SS → Prop} {A : Prop} (h : ∀ h, s_is S h → A) (k : A → s_w X d K pc ll st S Q) : s_w X d K pc ll st S Q := fun hp hs => k (h hp hs) hp hs
theorem c_use {X : e_XT} {d mi : Nat} {args : List Value} {S : e_SS} {Q : e_Rt → e_SS → Prop} {A : Prop} (h : ∀ h, s_is S h → A) (k : A → s_c X d mi args S Q) : s_c X d mi args S Q := fun hp hs => k (h hp hs) hp hs
set_option maxRecDepth 100000 in
set_option maxHeartbeats 4000000 in
theorem c_max {X : e_XT} {d : Nat} {p : e_Sp} {I : e_I} {J : e_Jt} {c : Nat × Nat} {w : e_Rw1} {Q : e_Rt → e_SS → Prop} {x y : Int32} (k : Q (.inl (some (.int (s_max x y)))) (p, I, J, c, w)) : s_c X (d + 0) 390 [.int x, .int y] (p, I, J, c, w) Q := by
  refine m_J9_max_7cf53 (Nat.le_of_ble_eq_true rfl) ?_
  show s_w _ _ _ 0 _ _ _ _
  refine w_op (pc' := 1) dJ9_max_7cf53_0 rfl ?_
  refine w_op (pc' := 2) dJ9_max_7cf53_1 rfl ?_
  refine w_icmplt (t := 9) dJ9_max_7cf53_2 (by decide) (fun c2 => ?_) (fun c2 => ?_)
  · refine w_op (pc' := 10) dJ9_max_7cf53_9 rfl ?_
    exact w_ireturn dJ9_max_7cf53_10 ⟨rfl, s_eqi (by unfold s_max; grind) k⟩
  · refine w_op (pc' := 6) dJ9_max_7cf53_5 rfl ?_
    refine w_goto (t := 10) dJ9_max_7cf53_6 (by decide) ?_
    exact w_ireturn dJ9_max_7cf53_10 ⟨rfl, s_eqi (by unfold s_max; grind) k⟩
set_option maxRecDepth 100000 in
set_option maxHeartbeats 4000000 in
theorem c_min {X : e_XT} {d : Nat} {p : e_Sp} {I : e_I} {J : e_Jt} {c : Nat × Nat} {w : e_Rw1} {Q : e_Rt → e_SS → Prop} {x y : Int32} (k : Q (.inl (some (.int (s_min x y)))) (p, I, J, c, w)) : s_c X (d + 0) 391 [.int x, .int y] (p, I, J, c, w) Q := by
  refine m_J9_min_7cf53 (Nat.le_of_ble_eq_true rfl) ?_
  show s_w _ _ _ 0 _ _ _ _
  refine w_op (pc' := 1) dJ9_min_7cf53_0 rfl ?_
  refine w_op (pc' := 2) dJ9_min_7cf53_1 rfl ?_
  refine w_icmpgt (t := 9) dJ9_min_7cf53_2 (by decide) (fun c2 => ?_) (fun c2 => ?_)
  · refine w_op (pc' := 10) dJ9_min_7cf53_9 rfl ?_
    exact w_ireturn dJ9_min_7cf53_10 ⟨rfl, s_eqi (by unfold s_min; grind) k⟩
  · refine w_op (pc' := 6) dJ9_min_7cf53_5 rfl ?_
    refine w_goto (t := 10) dJ9_min_7cf53_6 (by decide) ?_
    exact w_ireturn dJ9_min_7cf53_10 ⟨rfl, s_eqi (by unfold s_min; grind) k⟩
set_option maxRecDepth 100000 in
set_option maxHeartbeats 4000000 in
theorem c_abs {X : e_XT} {d : Nat} {p : e_Sp} {I : e_I} {J : e_Jt} {c : Nat × Nat} {w : e_Rw1} {Q : e_Rt → e_SS → Prop} {x : Int32} (k : Q (.inl (some (.int (s_abs x)))) (p, I, J, c, w)) : s_c X (d + 0) 392 [.int x] (p, I, J, c, w) Q := by
  refine m_J9_abs_0f7a4 (Nat.le_of_ble_eq_true rfl) ?_
  show s_w _ _ _ 0 _ _ _ _
  refine w_op (pc' := 1) dJ9_abs_0f7a4_0 rfl ?_
  refine w_ifge (t := 9) dJ9_abs_0f7a4_1 (by decide) (fun c1 => ?_) (fun c1 => ?_)
  · refine w_op (pc' := 10) dJ9_abs_0f7a4_9 rfl ?_
    exact w_ireturn dJ9_abs_0f7a4_10 ⟨rfl, s_eqi (by unfold s_abs; grind) k⟩
  · refine w_op (pc' := 5) dJ9_abs_0f7a4_4 rfl ?_
    refine w_op (pc' := 6) dJ9_abs_0f7a4_5 rfl ?_
    refine w_goto (t := 10) dJ9_abs_0f7a4_6 (by decide) ?_
    exact w_ireturn dJ9_abs_0f7a4_10 ⟨rfl, s_eqi (by unfold s_abs; grind) k⟩
set_option maxRecDepth 100000 in
set_option maxHeartbeats 4000000 in
theorem c_check3 {X : e_XT} {d : Nat} {p : e_Sp} {I : e_I} {J : e_Jt} {c : Nat × Nat} {w : e_Rw1} {Q : e_Rt → e_SS → Prop} {x y : Int32} (h0 : 0 ≤ x) (h1 : x < y) (k : Q (.inl (some (.int x))) (p, I, J, c, w)) : s_c X (d + 0) 384 [.int x, .int y, .null] (p, I, J, c, w) Q := by
  refine m_J3_checkIndex_8e157 (Nat.le_of_ble_eq_true rfl) ?_
  show s_w _ _ _ 0 _ _ _ _
  refine w_op (pc' := 1) dJ3_checkIndex_8e157_0 rfl ?_
  refine w_iflt (t := 9) dJ3_checkIndex_8e157_1 (by decide) (fun c1 => ?_) (fun c1 => ?_)
  · exact absurd c1 (Int32.not_lt.mpr h0)
  · refine w_op (pc' := 5) dJ3_checkIndex_8e157_4 rfl ?_
    refine w_op (pc' := 6) dJ3_checkIndex_8e157_5 rfl ?_
    refine w_icmplt (t := 16) dJ3_checkIndex_8e157_6 (by decide) (fun c6 => ?_) (fun c6 => ?_)
    · refine w_op (pc' := 17) dJ3_checkIndex_8e157_16 rfl ?_
      exact w_ireturn dJ3_checkIndex_8e157_17 ⟨rfl, k⟩
    · exact absurd h1 c6
set_option maxRecDepth 100000 in
set_option maxHeartbeats 4000000 in
theorem c_check2 {X : e_XT} {d : Nat} {p : e_Sp} {I : e_I} {J : e_Jt} {c : Nat × Nat} {w : e_Rw1} {Q : e_Rt → e_SS → Prop} {x y : Int32} (h0 : 0 ≤ x) (h1 : x < y) (k : Q (.inl (some (.int x))) (p, I, J, c, w)) : s_c X (d + 1) 383 [.int x, .int y] (p, I, J, c, w) Q := by
  refine m_J15_checkIndex_7cf53 (Nat.le_of_ble_eq_true rfl) ?_
  show s_w _ _ _ 0 _ _ _ _
  refine w_op (pc' := 1) dJ15_checkIndex_7cf53_0 rfl ?_
  refine w_op (pc' := 2) dJ15_checkIndex_7cf53_1 rfl ?_
  refine w_op (pc' := 3) dJ15_checkIndex_7cf53_2 rfl ?_
  refine t_callS (As := [_, _, _]) dJ15_checkIndex_7cf53_3 rfl rM_J3_checkIndex_8e157 (by decide) rfl rfl (by decide) (by simp) (c_check3 h0 h1 ?_)
  show s_w _ _ _ 6 _ _ _ _
  exact w_ireturn dJ15_checkIndex_7cf53_6 ⟨rfl, k⟩
set_option maxRecDepth 100000 in
set_option maxHeartbeats 4000000 in
theorem c_size {X : e_XT} {d : Nat} {p : e_Sp} {I : e_I} {J : e_Jt} {c : Nat × Nat} {w : e_Rw1} {Q : e_Rt → e_SS → Prop} {l : Nat} (hl : p.2.1 T_LIST l = true) (k : Q (.inl (some (.int (I f_l_size l)))) (p, I, J, c, w)) : s_c X (d + 0) 5 [.ref (p.1 T_LIST l)] (p, I, J, c, w) Q := by
  refine m_Jx4a65c_size_8abf5 (Nat.le_of_ble_eq_true rfl) ?_
  show s_w _ _ _ 0 _ _ _ _
  refine w_op (pc' := 1) dJx4a65c_size_8abf5_0 rfl ?_
  refine t_getI (F := f_l_size) dJx4a65c_size_8abf5_1 rfl rfl (by decide) rfl ⟨rfl, fun _ => rfl⟩ hl ?_
  exact w_ireturn dJx4a65c_size_8abf5_4 ⟨rfl, k⟩
set_option maxRecDepth 100000 in
set_option maxHeartbeats 4000000 in
theorem c_elData {X : e_XT} {d : Nat} {p : e_Sp} {I : e_I} {J : e_Jt} {c : Nat × Nat} {w : e_Rw1} {Q : e_Rt → e_SS → Prop} {l j m : Nat} (hl : p.2.1 T_LIST l = true) (hz : I f_l_size l = nI m) (hm : m < 2147483648) (hj : j < m) (k : Q (.inl (some (.ref (p.1 (e_elT l) (e_elI l j))))) (p, I, J, c, w)) : s_c X (d + 0) 7 [.ref (p.1 T_LIST l), .int (nI j)] (p, I, J, c, w) Q := by
  have hx : s_ix (nI j) j (I f_l_size l).toNatClampNeg := by rw [hz, nI_clamp (by omega)]; exact s_ix.nI hj (by omega)
  refine m_Jx4a65c_elementData_915e3 (Nat.le_of_ble_eq_true rfl) ?_
  show s_w _ _ _ 0 _ _ _ _
  refine w_op (pc' := 1) dJx4a65c_elementData_915e3_0 rfl ?_
  refine t_getG1 (G := g_l_arr) dJx4a65c_elementData_915e3_1 rfl rfl (by decide) rfl (fun _ => rfl) hl ?_
  refine w_op (pc' := 5) dJx4a65c_elementData_915e3_4 rfl ?_
  refine t_aaldL dJx4a65c_elementData_915e3_5 hl hx ?_
  exact w_areturn dJx4a65c_elementData_915e3_6 ⟨rfl, k⟩
set_option maxRecDepth 100000 in
set_option maxHeartbeats 4000000 in
theorem c_get {X : e_XT} {d : Nat} {p : e_Sp} {I : e_I} {J : e_Jt} {c : Nat × Nat} {w : e_Rw1} {Q : e_Rt → e_SS → Prop} {l j m : Nat} (hl : p.2.1 T_LIST l = true) (hz : I f_l_size l = nI m) (hm : m < 2147483648) (hj : j < m) (k : Q (.inl (some (.ref (p.1 (e_elT l) (e_elI l j))))) (p, I, J, c, w)) : s_c X (d + 2) 6 [.ref (p.1 T_LIST l), .int (nI j)] (p, I, J, c, w) Q := by
  refine m_Jx4a65c_get_915e3 (Nat.le_of_ble_eq_true rfl) ?_
  show s_w _ _ _ 0 _ _ _ _
  refine w_op (pc' := 1) dJx4a65c_get_915e3_0 rfl ?_
  refine w_op (pc' := 2) dJx4a65c_get_915e3_1 rfl ?_
  refine t_getI (F := f_l_size) dJx4a65c_get_915e3_2 rfl rfl (by decide) rfl ⟨rfl, fun _ => rfl⟩ hl ?_
  refine t_callS (As := [_, _]) dJx4a65c_get_915e3_5 rfl rM_J15_checkIndex_7cf53 (by decide) rfl rfl (by decide) (by simp) (c_check2 (nI_pos' (by omega)) (by rw [hz]; exact (nI_ltI (by omega) (by omega)).mpr hj) ?_)
  show s_w _ _ _ 8 _ _ _ _
  refine w_op (pc' := 9) dJx4a65c_get_915e3_8 rfl ?_
  refine w_op (pc' := 10) dJx4a65c_get_915e3_9 rfl ?_
  refine w_op (pc' := 11) dJx4a65c_get_915e3_10 rfl ?_
  refine t_callV (t := T_LIST) (As := [_]) dJx4a65c_get_915e3_11 rfl rM_Jx4a65c_elementData_915e3 (by decide) rfl rfl (by decide) (by decide) (by simp) rfl hl (c_elData hl hz hm hj ?_)
  show s_w _ _ _ 14 _ _ _ _
  exact w_areturn dJx4a65c_get_915e3_14 ⟨rfl, k⟩
set_option maxHeartbeats 4000000 in
theorem l_fill {X : e_XT} {d : Nat} {p : e_Sp} {I : e_I} {J : e_Jt} {c : Nat × Nat} {w : e_Rw1} {Q : e_Rt → e_SS → Prop} {t F W : Nat} {x : Int32} (hF : e_FI F = (t, 0, W)) (hN : F < e_NI) (hsz : F ≠ f_l_size) (hT : e_T t = (100, W)) (hv : p.2.1 t 0 = true) (hW : W < 100000) :
    ∀ (n i : Nat), i ≤ W → W - i = n → Q (.inl none) (p, s_fill I F W x, J, c, w) → s_w X d K_J7_fill_53178 5 [some (.ref (p.1 t 0)), some (.int x), some (.int (nI i)), some (.int (nI W))] [] (p, s_fill I F i x, J, c, w) (fun r S' => e_rcr none r = true ∧ Q r S') := by
  intro n
  induction n with
  | zero =>
    intro i h1 h2 k
    have e : i = W := by omega
    subst e
    refine w_op (pc' := 6) dJ7_fill_53178_5 rfl ?_
    refine w_op (pc' := 7) dJ7_fill_53178_6 rfl ?_
    refine w_icmpge (t := 20) dJ7_fill_53178_7 (by decide) (fun c7 => ?_) (fun c7 => ?_)
    · exact w_return dJ7_fill_53178_20 ⟨rfl, k⟩
    · exact absurd (Int32.le_refl _) c7
  | succ n ih =>
    intro i h1 h2 k
    have hl : s_ln p t 0 = W := by unfold s_ln; rw [hT]; exact if_neg (by show ¬ W = 1000000000; omega)
    refine w_op (pc' := 6) dJ7_fill_53178_5 rfl ?_
    refine w_op (pc' := 7) dJ7_fill_53178_6 rfl ?_
    refine w_icmpge (t := 20) dJ7_fill_53178_7 (by decide) (fun c7 => ?_) (fun c7 => ?_)
    · exact absurd ((nI_leI (by omega) (by omega)).mp c7) (by omega)
    · refine w_op (pc' := 11) dJ7_fill_53178_10 rfl ?_
      refine w_op (pc' := 12) dJ7_fill_53178_11 rfl ?_
      refine w_op (pc' := 13) dJ7_fill_53178_12 rfl ?_
      refine t_iast0 (F := F) (n := i) dJ7_fill_53178_13 hF hN hsz (by rw [hT]) hv (by rw [hl]; exact s_ix.nI (by omega) (by omega)) (by omega) ?_
      refine w_op (pc' := 17) (ll' := [_, _, _, _]) dJ7_fill_53178_14 rfl ?_
      refine w_goto (t := 5) dJ7_fill_53178_17 (by decide) ?_
      rw [s_fill_up, show nI i + Int32.ofInt 1 = nI (i + 1) from nI_1 i]
      exact ih (i + 1) (by omega) (by omega) k
theorem c_fill {X : e_XT} {d : Nat} {p : e_Sp} {I : e_I} {J : e_Jt} {c : Nat × Nat} {w : e_Rw1} {Q : e_Rt → e_SS → Prop} {t F W : Nat} {x : Int32} (hF : e_FI F = (t, 0, W)) (hN : F < e_NI) (hsz : F ≠ f_l_size) (hT : e_T t = (100, W)) (hv : p.2.1 t 0 = true) (hW : W < 100000) (k : Q (.inl none) (p, s_fill I F W x, J, c, w)) : s_c X (d + 0) 375 [.ref (p.1 t 0), .int x] (p, I, J, c, w) Q := by
  have hl : s_ln p t 0 = W := by unfold s_ln; rw [hT]; exact if_neg (by show ¬ W = 1000000000; omega)
  refine m_J7_fill_53178 (Nat.le_of_ble_eq_true rfl) ?_
  show s_w _ _ _ 0 _ _ _ _
  refine w_iconst (v := 0) dJ7_fill_53178_0 rfl ?_
  refine w_op (pc' := 2) (ll' := [_, _, _, _]) dJ7_fill_53178_1 rfl ?_
  refine w_op (pc' := 3) dJ7_fill_53178_2 rfl ?_
  refine t_alen dJ7_fill_53178_3 (by rw [hT]; show 100 ≤ 100 ∧ 100 ≤ 106; decide) hv ?_
  rw [hl]
  refine w_op (pc' := 5) (ll' := [_, _, _, _]) dJ7_fill_53178_4 rfl ?_
  have e := l_fill (X := X) (d := d + 0) (I := I) (J := J) (c := c) (w := w) (Q := Q) (x := x) hF hN hsz hT hv hW W 0 (Nat.zero_le _) (Nat.sub_zero _) k
  rw [s_fill_0] at e
  exact e
