/-! 73: lists grow (the machine) (printed by wip/whole/p73.py) -/
theorem e_toO_ref {v : Value} {a : Nat} (h : e_toO v = some a) : v = .ref a := by
  cases v <;> first | (cases h; rfl) | cases h
theorem s_elk (l : Nat) : (e_T (e_elT l)).1 < 21 ∧ e_ob (e_T (e_elT l)).1 = true := by
  unfold e_elT
  split <;> decide
section s_lw
variable {X : e_XT} {d : Nat} {K : e_KT} {pc ix pl ho b l m n : Nat} {ll : e_LL} {st rest : List Value} {p : e_Sp} {I : e_I} {J : e_Jt} {c : Nat × Nat} {w : e_Rw1} {Q : e_Rt → e_SS → Prop} {f g : Nat → Value}
/-- a list gets another row -/
theorem w_putLarr (hd : decode K.2.2.1 pc = .ok (.putfield ix, 3)) (hfl : e_fl K.1 ix = some (ix, 3, 1, pl, ho)) (hv : p.2.1 T_LIST l = true) (hf : w b = none) (hm : (I f_l_size l).toNatClampNeg ≤ m) (hg : ∀ j, j < (I f_l_size l).toNatClampNeg → g j = .ref (p.1 (e_elT l) (e_elI l j))) (k : s_w X d K (pc + 3) ll st (s_pv p T_LARR l b m, I, J, c, w) Q) : s_w X d K pc ll (.ref b :: .ref (p.1 T_LIST l) :: st) (p, I, J, c, fun b' => if b' = b then some (105, m, g) else w b') Q := by
  refine w_hop hd (fun h hs => ⟨e_set h (p.1 T_LIST l) 1 (.ref b), e_hopA ?_, ?_⟩) k
  · obtain ⟨q1, q2, q3, -, -⟩ := hs.1.1 T_LIST l hv
    show (match e_fl K.1 ix with
      | some r => if p.1 T_LIST l < e_n h ∧ e_kd h (p.1 T_LIST l) = r.2.1 ∧ e_ck (e_cY r.2.1 r.2.2.1) (.ref b) = true ∧ ((e_cT r.2.1 r.2.2.1).2.2.2 = false ∨ (K.2.1 = true ∧ r.2.1 = K.1 ∧ r.2.2.2.2 = 0)) then some (st, e_set h (p.1 T_LIST l) r.2.2.1 (.ref b)) else none
      | none => none) = _
    rw [hfl]
    exact if_pos ⟨q2, q3, rfl, Or.inl rfl⟩
  · obtain ⟨h1, h2, h5⟩ := hs
    obtain ⟨⟨g1, g2, g3, g4⟩, g5⟩ := h5 b _ (if_pos rfl)
    refine ⟨h1.tl hv g1 g2 g3 g5 hm (fun j hj => by rw [g4 j, show (105, m, g).2.2 j = g j from rfl, hg j hj]; rfl), h2, fun b' o ho => ?_⟩
    have hba : b' ≠ b := fun z => by subst z; have ho : w b' = some o := ho; rw [hf] at ho; cases ho
    obtain ⟨⟨k1, k2, k3, k4⟩, k5⟩ := h5 b' o ((if_neg hba).trans ho)
    refine ⟨⟨k1, k2, k3, fun s => by rw [e_v_ne (Or.inl (Ne.symm (k5 T_LIST l hv)))]; exact k4 s⟩, fun t i hv1 => ?_⟩
    show (s_pv p T_LARR l b m).1 t i ≠ b'
    by_cases e : t = T_LARR ∧ i = l
    · obtain ⟨rfl, rfl⟩ := e; rw [s_pv_s]; exact hba.symm
    · have hv1 : (s_pv p T_LARR l b m).2.1 t i = true := hv1
      rw [s_pv_nv e] at hv1
      rw [s_pv_n e]; exact k5 t i hv1
/-- a list's row is copied into one that is being made -/
theorem w_copyL (ho31 : K.1 < 33) (hcl : e_cl2 K.1 ix = some (ix, 1001, pl, 0)) (hcat : (rest.map fun v => v.category).sum ≤ 8) (hd : decode K.2.2.1 pc = .ok (.invokestatic ix, 3)) (hl : p.2.1 T_LIST l = true) (hA : p.2.1 T_LARR l = true) (hsz : I f_l_size l = nI n) (hn : p.2.2.1 T_LARR l = n) (hn31 : n < 2147483648) (hw : w b = some (105, m, f)) (hnm : n ≤ m)
    (k : s_w X d K (pc + 3) ll rest (p, I, J, c, fun b' => if b' = b then some (105, m, fun s => if s < n then .ref (p.1 (e_elT l) (e_elI l s)) else f s) else w b') Q) : s_w X d K pc ll (.int (nI n) :: .int 0 :: .ref b :: .int 0 :: .ref (p.1 T_LARR l) :: rest) (p, I, J, c, w) Q := fun h hs => by
  obtain ⟨⟨g1, g2, g3, g4⟩, g5⟩ := hs.2.2 b _ hw
  obtain ⟨q1, q2, q3, q4, q5⟩ := hs.1.1 T_LARR l hA
  have hz : (0 : Int32).toNatClampNeg = 0 := rfl
  have hcm := nI_clamp (n := n) hn31
  have hs1 := hs.rowset (g := e_cpyv (e_v h (p.1 T_LARR l)) (e_v h b) 0 0 n) hw
  have eg : e_cpyv (e_v h (p.1 T_LARR l)) (e_v h b) 0 0 n = fun s => if s < n then .ref (p.1 (e_elT l) (e_elI l s)) else f s := by
    funext s
    unfold e_cpyv
    by_cases e : s < n
    · rw [if_pos ⟨Nat.zero_le _, by omega⟩, if_pos e, show 0 + (s - 0) = s by omega]
      obtain ⟨-, -, -, u4⟩ := hs.1.2.2.2.2.1 l s hl (by show s < (I f_l_size l).toNatClampNeg; rw [hsz, hcm]; exact e)
      exact e_toO_ref u4
    · rw [if_neg (by omega), if_neg e]; exact g4 s
  rw [eg] at hs1
  obtain ⟨r, h', S', q, z, j⟩ := k _ hs1
  refine ⟨r, h', S', q, z, e_J.copy (kd := 105) (ci := (e_T (e_elT l)).1) ho31 hcl hcat hd q2 g1 q3 g2 (by decide) (by decide) (nI_pos hn31) ?_ ?_ (Or.inr (Or.inr ⟨rfl, (s_elk l).1, (s_elk l).2, fun i hi y hy => ?_⟩)) ?_⟩
  · rw [hz, hcm, show e_ln h (p.1 T_LARR l) = n from q5.trans hn]; omega
  · rw [hz, hcm, g3]; show 0 + n ≤ m; omega
  · rw [hcm] at hi
    rw [hz, Nat.zero_add] at hy
    obtain ⟨-, -, u3, u4⟩ := hs.1.2.2.2.2.1 l i hl (by show i < (I f_l_size l).toNatClampNeg; rw [hsz, hcm]; exact hi)
    have e8 := Option.some.inj (u4.symm.trans hy)
    obtain ⟨v1, v2, v3, -, -⟩ := hs.1.1 _ _ u3
    rw [← e8]
    exact ⟨v2, v3⟩
  · rw [hz, hcm]
    rw [← eg] at j
    exact j
end s_lw
def s_cap (n : Nat) : Nat := if n = 0 then 10 else n + n / 2
/-- a list of n things, and its row -/
def s_La (p : e_Sp) (I : e_I) (l n : Nat) : Prop := p.2.1 T_LIST l = true ∧ I f_l_size l = nI n ∧ n < 40000000 ∧ ((n = 0 ∧ p.1 T_LARR l = e_xb + 8) ∨ (p.2.1 T_LARR l = true ∧ 10 ≤ p.2.2.1 T_LARR l ∧ n ≤ p.2.2.1 T_LARR l ∧ p.2.2.1 T_LARR l ≤ 60000000))
theorem s_max_nI (a b : Nat) (ha : a < 2147483648) (hb : b < 2147483648) : s_max (nI a) (nI b) = nI (max a b) := by
  unfold s_max
  by_cases z : a < b
  · rw [if_pos ((nI_ltI ha hb).mpr z), Nat.max_eq_right (by omega)]
  · rw [if_neg (fun y => z ((nI_ltI ha hb).mp y)), Nat.max_eq_left (by omega)]
set_option maxRecDepth 100000 in
set_option maxHeartbeats 4000000 in
theorem c_newLength {X : e_XT} {d : Nat} {p : e_Sp} {I : e_I} {J : e_Jt} {c : Nat × Nat} {w : e_Rw1} {Q : e_Rt → e_SS → Prop} {n : Nat} (h2 : 2 ≤ n) (hn : n < 1000000000) (k : Q (.inl (some (.int (nI (n + n / 2))))) (p, I, J, c, w)) : s_c X (d + 1) 387 [.int (nI n), .int (nI 1), .int (nI (n / 2))] (p, I, J, c, w) Q := by
  refine m_J8_newLength_cabcc (Nat.le_of_ble_eq_true rfl) ?_
  show s_w _ _ _ 0 _ _ _ _
  refine w_op (pc' := 1) dJ8_newLength_cabcc_0 rfl ?_
  refine w_op (pc' := 2) dJ8_newLength_cabcc_1 rfl ?_
  refine w_op (pc' := 3) dJ8_newLength_cabcc_2 rfl ?_
  refine t_callS (As := [_, _]) dJ8_newLength_cabcc_3 rfl rM_J9_max_7cf53 (by decide) rfl rfl (by decide) (Nat.le_of_ble_eq_true rfl) (c_max ?_)
  show s_w _ _ _ 6 _ _ _ _
  rw [s_max_nI _ _ (by omega) (by omega), show max 1 (n / 2) = n / 2 by omega]
  refine w_op (pc' := 7) dJ8_newLength_cabcc_6 rfl ?_
  rw [nI_add]
  refine w_op (pc' := 8) (ll' := [_, _, _, _]) dJ8_newLength_cabcc_7 rfl ?_
  refine w_iconst (v := 0) dJ8_newLength_cabcc_8 rfl ?_
  refine w_op (pc' := 10) dJ8_newLength_cabcc_9 rfl ?_
  refine w_icmpge (t := 21) dJ8_newLength_cabcc_10 (by decide) (fun c10 => ?_) (fun c10 => ?_)
  · exact absurd c10 (fun z => absurd (Int32.le_iff_toInt_le.mp z) (by rw [nI_toInt (by omega)]; show ¬ ((n + n / 2 : Nat) : Int) ≤ 0; omega))
  · refine w_op (pc' := 14) dJ8_newLength_cabcc_13 rfl ?_
    refine w_ldci dJ8_newLength_cabcc_14 rfl ?_
    refine w_icmpgt (t := 21) dJ8_newLength_cabcc_16 (by decide) (fun c16 => ?_) (fun c16 => ?_)
    · exact absurd (Int32.lt_iff_toInt_lt.mp c16) (by rw [nI_toInt (by omega)]; show ¬ (2147483639 : Int) < _; omega)
    · refine w_op (pc' := 20) dJ8_newLength_cabcc_19 rfl ?_
      exact w_ireturn dJ8_newLength_cabcc_20 ⟨rfl, k⟩
