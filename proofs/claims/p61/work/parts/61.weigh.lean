/-! 61: ints copied from row to row; chords weighed (printed by wip/whole/p61.py) -/
def s_cpI (I : e_I) (F0 F1 m : Nat) : e_I := fun F' i => if F' = F1 ∧ i < m then I F0 i else I F' i
theorem e_rep.cpyI {p : e_Sp} {I : e_I} {J : e_Jt} {h : e_Hp} {F0 F1 t0 t1 W0 W m : Nat} (hR : e_rep p I J h) (hF0 : e_FI F0 = (t0, 0, W0)) (hN0 : F0 < e_NI) (hF : e_FI F1 = (t1, 0, W)) (hN : F1 < e_NI) (hv0 : p.2.1 t0 0 = true) (hv : p.2.1 t1 0 = true) (h1 : ((List.range e_NI).all fun F' => decide (F' = F1) || decide ((e_FI F').1 ≠ t1)) = true) (h2 : ((List.range e_NJ).all fun F' => decide ((e_FJ F').1 ≠ t1)) = true) (h3 : ((List.range e_NG).all fun G => decide ((e_FG G).1 ≠ t1)) = true) (h4 : t1 ≠ T_LARR ∧ t1 ≠ T_PARR ∧ t1 ≠ T_KNOB ∧ F1 ≠ f_l_size) (hm0 : m ≤ W0) (hm : m ≤ W) (hW : 0 < W) : e_rep p (s_cpI I F0 F1 m) J (e_cpyh h (p.1 t0 0) 0 (p.1 t1 0) 0 m) := by
  obtain ⟨r1, r2, r3, r4, r5, r6, r7⟩ := hR
  have key : ∀ t' i s, p.2.1 t' i = true → ¬ (t' = t1 ∧ i = 0) → e_v (e_cpyh h (p.1 t0 0) 0 (p.1 t1 0) 0 m) (p.1 t' i) s = e_v h (p.1 t' i) s := fun t' i s hv1 hn => by
    unfold e_cpyh
    rw [e_rowset_ne (r1.apart hv1 hv hn)]
  refine ⟨r1, fun F' i hF' hv1 => ?_, fun F' i hF' hv1 => ?_, fun G i hG hv1 => ?_, fun l j hl1 hj => ?_, fun r hr => ?_, fun k hk1 => ?_⟩
  · rcases (Bool.or_eq_true _ _).mp (e_all h1 hF') with c | c
    · have c := of_decide_eq_true c
      subst c
      have r2' := r2 F' i hF' hv1
      rw [hF] at hv1 r2' ⊢
      have hv1 : p.2.1 t1 (i / W) = true := hv1
      show e_toI (e_v _ (p.1 t1 (i / W)) (0 + i % W)) = _
      have r2' : e_toI (e_v h (p.1 t1 (i / W)) (0 + i % W)) = I F' i := r2'
      by_cases e : i / W = 0
      · have hi : i < W := (Nat.div_eq_zero_iff_lt hW).mp e
        rw [e] at r2' ⊢
        rw [Nat.mod_eq_of_lt hi, Nat.zero_add] at r2' ⊢
        unfold e_cpyh
        rw [e_rowset_v]
        unfold e_cpyv s_cpI
        by_cases b : i < m
        · rw [if_pos ⟨Nat.zero_le _, by omega⟩, if_pos ⟨rfl, b⟩]
          have r4' := r2 F0 i hN0 (by rw [hF0]; show p.2.1 t0 (i / W0) = true; rw [Nat.div_eq_of_lt (by omega)]; exact hv0)
          rw [hF0] at r4'
          have r4' : e_toI (e_v h (p.1 t0 (i / W0)) (0 + i % W0)) = I F0 i := r4'
          rw [Nat.div_eq_of_lt (by omega), Nat.mod_eq_of_lt (by omega), Nat.zero_add] at r4'
          rw [show 0 + (i - 0) = i by omega]
          exact r4'
        · rw [if_neg (by omega), if_neg (fun z => b z.2)]
          exact r2'
      · rw [key _ _ _ hv1 (fun z => e z.2), r2']
        unfold s_cpI
        rw [if_neg (fun z => e (Nat.div_eq_of_lt (by omega)))]
    · have c := of_decide_eq_true c
      rw [key _ _ _ hv1 (fun z => c z.1)]
      unfold s_cpI
      rw [if_neg (fun z => c (by rw [z.1, hF]))]
      exact r2 F' i hF' hv1
  · rw [key _ _ _ hv1 (fun z => of_decide_eq_true (e_all h2 hF') z.1)]
    exact r3 F' i hF' hv1
  · rw [key _ _ _ hv1 (fun z => of_decide_eq_true (e_all h3 hG) z.1)]
    exact r4 G i hG hv1
  · have es : s_cpI I F0 F1 m f_l_size l = I f_l_size l := if_neg (fun z => h4.2.2.2 z.1.symm)
    rw [es] at hj ⊢
    obtain ⟨q1, q2, q3, q4⟩ := r5 l j hl1 hj
    rw [key _ _ _ q1 (fun z => h4.1 z.1.symm)]
    exact ⟨q1, q2, q3, q4⟩
  · obtain ⟨q1, q2⟩ := r6 r hr
    refine ⟨q1, fun j hj => ⟨(q2 j hj).1, ?_⟩⟩
    rw [key _ _ _ q1 (fun z => h4.2.1 z.1.symm)]
    exact (q2 j hj).2
  · rw [key _ _ _ hk1 (fun z => h4.2.2.1 z.1.symm), key _ _ _ hk1 (fun z => h4.2.2.1 z.1.symm)]
    exact r7 k hk1
/-- ints are copied from row to row, from the start -/
theorem w_copyII {X : e_XT} {d : Nat} {K : e_KT} {pc ix pl t0 t1 F0 F1 W0 W m : Nat} {n : Int32} {ll : e_LL} {rest : List Value} {p : e_Sp} {I : e_I} {J : e_Jt} {c : Nat × Nat} {w : e_Rw1} {Q : e_Rt → e_SS → Prop} (ho31 : K.1 < 33) (hcl : e_cl2 K.1 ix = some (ix, 1001, pl, 0)) (hcat : (rest.map fun v => v.category).sum ≤ 8) (hdg : decode K.2.2.1 pc = .ok (.invokestatic ix, 3)) (hF0 : e_FI F0 = (t0, 0, W0)) (hN0 : F0 < e_NI) (hF : e_FI F1 = (t1, 0, W)) (hN : F1 < e_NI) (hT0 : (e_T t0) = (100, W0)) (hT : (e_T t1) = (100, W)) (hW9 : W < 100000 ∧ W0 < 100000) (hv0 : p.2.1 t0 0 = true) (hv : p.2.1 t1 0 = true) (h1 : ((List.range e_NI).all fun F' => decide (F' = F1) || decide ((e_FI F').1 ≠ t1)) = true) (h2 : ((List.range e_NJ).all fun F' => decide ((e_FJ F').1 ≠ t1)) = true) (h3 : ((List.range e_NG).all fun G => decide ((e_FG G).1 ≠ t1)) = true) (h4 : t1 ≠ T_LARR ∧ t1 ≠ T_PARR ∧ t1 ≠ T_KNOB ∧ F1 ≠ f_l_size) (hm0 : m ≤ W0) (hm : m ≤ W) (hW : 0 < W) (hn : n = nI m) (k : s_w X d K (pc + 3) ll rest (p, s_cpI I F0 F1 m, J, c, w) Q) : s_w X d K pc ll (.int n :: .int 0 :: .ref (p.1 t1 0) :: .int 0 :: .ref (p.1 t0 0) :: rest) (p, I, J, c, w) Q := fun h hs0 => by
  subst hn
  obtain ⟨q1, q2, q3, q4, q5⟩ := hs0.1.1 t1 0 hv
  obtain ⟨u1, u2, u3, u4, u5⟩ := hs0.1.1 t0 0 hv0
  rw [hT, if_neg (show ¬ (W = 1000000000) by omega)] at q5
  rw [hT0, if_neg (show ¬ (W0 = 1000000000) by omega)] at u5
  have hz : (0 : Int32).toNatClampNeg = 0 := rfl
  have hs1 : s_is (p, s_cpI I F0 F1 m, J, c, w) (e_cpyh h (p.1 t0 0) 0 (p.1 t1 0) 0 m) := ⟨hs0.1.cpyI hF0 hN0 hF hN hv0 hv h1 h2 h3 h4 hm0 hm hW, hs0.2.1, fun a o ho9 => by
    obtain ⟨⟨g1, g2, g3, g4⟩, g5⟩ := hs0.2.2 a o ho9
    exact ⟨⟨g1, g2, g3, fun s => by unfold e_cpyh; rw [e_rowset_ne (fun z => g5 t1 0 hv z.symm)]; exact g4 s⟩, g5⟩⟩
  obtain ⟨r, h', S', q, z, j⟩ := k _ hs1
  refine ⟨r, h', S', q, z, e_J.copy (kd := 100) (ci := 0) ho31 hcl hcat hdg u2 q2 (u3.trans (by rw [hT0])) (q3.trans (by rw [hT])) (by decide) (by decide) (nI_pos (by omega)) ?_ ?_ (Or.inl rfl) ?_⟩
  · rw [hz, nI_clamp (by omega), u5]; show 0 + m ≤ W0; omega
  · rw [hz, nI_clamp (by omega), q5]; show 0 + m ≤ W; omega
  · rw [hz, nI_clamp (by omega)]; exact j
def s_wgT (I : e_I) (x y z : Int32) : e_I := s_up (s_up (s_up I f_a_trial 1 (36 + x)) f_a_trial 2 (36 + y)) f_a_trial 3 (36 + z)
def s_wgW (I : e_I) (x y z : Int32) : Int32 := s_way I x 1 24 + s_way I y 2 28 + s_way I z 3 31
def s_wgB (I : e_I) (x y z : Int32) : e_I := if s_bds I < I f_bestBad 0 ∨ (s_bds I = I f_bestBad 0 ∧ s_wgW I x y z < I f_bestWay 0) then s_cpI (s_up (s_up I f_bestBad 0 (s_bds I)) f_bestWay 0 (s_wgW I x y z)) f_a_trial f_a_best 4 else I
set_option maxRecDepth 100000 in
set_option maxHeartbeats 4000000 in
theorem c_X1_weigh {X : e_XT} {d : Nat} {p : e_Sp} {I : e_I} {J : e_Jt} {c : Nat × Nat} {w : e_Rw1} {Q : e_Rt → e_SS → Prop} (hp : s_ok p) {x y z : Int32} (k : Q (.inl none) (p, s_wgB (s_wgT I x y z) x y z, J, c, w)) : s_c X (d + 3) 40 [.ref (p.1 T_CONT 0), .int x, .int y, .int z] (p, I, J, c, w) Q := by
  refine m_X1_weigh (Nat.le_of_ble_eq_true rfl) ?_
  show s_w _ _ _ 0 _ _ _ _
  refine w_op (pc' := 1) dX1_weigh_0 rfl ?_
  refine t_getG0 (G := g_o_trial) dX1_weigh_1 rfl rfl (by decide) rfl (fun _ => rfl) (hp.1 _ rfl) ?_
  refine w_iconst (v := 1) dX1_weigh_4 rfl ?_
  refine w_bipush (v := 36) dX1_weigh_5 rfl ?_
  refine w_op (pc' := 8) dX1_weigh_7 rfl ?_
  refine w_op (pc' := 9) dX1_weigh_8 rfl ?_
  refine t_iast0 (F := f_a_trial) dX1_weigh_9 rfl (by decide) (by decide) rfl (hp.1 _ rfl) (s_ix.nI (n := 1) (N := 4) (by decide) (by decide)) (by decide) ?_
  refine w_op (pc' := 11) dX1_weigh_10 rfl ?_
  refine t_getG0 (G := g_o_trial) dX1_weigh_11 rfl rfl (by decide) rfl (fun _ => rfl) (hp.1 _ rfl) ?_
  refine w_iconst (v := 2) dX1_weigh_14 rfl ?_
  refine w_bipush (v := 36) dX1_weigh_15 rfl ?_
  refine w_op (pc' := 18) dX1_weigh_17 rfl ?_
  refine w_op (pc' := 19) dX1_weigh_18 rfl ?_
  refine t_iast0 (F := f_a_trial) dX1_weigh_19 rfl (by decide) (by decide) rfl (hp.1 _ rfl) (s_ix.nI (n := 2) (N := 4) (by decide) (by decide)) (by decide) ?_
  refine w_op (pc' := 21) dX1_weigh_20 rfl ?_
  refine t_getG0 (G := g_o_trial) dX1_weigh_21 rfl rfl (by decide) rfl (fun _ => rfl) (hp.1 _ rfl) ?_
  refine w_iconst (v := 3) dX1_weigh_24 rfl ?_
  refine w_bipush (v := 36) dX1_weigh_25 rfl ?_
  refine w_op (pc' := 28) dX1_weigh_27 rfl ?_
  refine w_op (pc' := 29) dX1_weigh_28 rfl ?_
  refine t_iast0 (F := f_a_trial) dX1_weigh_29 rfl (by decide) (by decide) rfl (hp.1 _ rfl) (s_ix.nI (n := 3) (N := 4) (by decide) (by decide)) (by decide) ?_
  rw [show s_up (s_up (s_up I f_a_trial 1 (36 + x)) f_a_trial 2 (36 + y)) f_a_trial 3 (36 + z) = s_wgT I x y z from rfl]
  generalize s_wgT I x y z = I at k ⊢
  refine w_op (pc' := 31) dX1_weigh_30 rfl ?_
  refine t_callV (t := T_CONT) (As := []) dX1_weigh_31 rfl rM_X1_badSteps (by decide) rfl rfl (by decide) (by decide) (Nat.le_of_ble_eq_true rfl) rfl (hp.1 _ rfl) (c_X1_badSteps hp ?_)
  show s_w _ _ _ 34 _ _ _ _
  refine w_op (pc' := 36) (ll' := [_, _, _, _, _, _]) dX1_weigh_34 rfl ?_
  refine w_op (pc' := 37) dX1_weigh_36 rfl ?_
  refine w_op (pc' := 38) dX1_weigh_37 rfl ?_
  refine w_iconst (v := 1) dX1_weigh_38 rfl ?_
  refine w_bipush (v := 24) dX1_weigh_39 rfl ?_
  refine t_callV (t := T_CONT) (As := [_, _, _]) dX1_weigh_41 rfl rM_X1_way (by decide) rfl rfl (by decide) (by decide) (Nat.le_of_ble_eq_true rfl) rfl (hp.1 _ rfl) (c_X1_way hp ?_)
  show s_w _ _ _ 44 _ _ _ _
  refine w_op (pc' := 45) dX1_weigh_44 rfl ?_
  refine w_op (pc' := 46) dX1_weigh_45 rfl ?_
  refine w_iconst (v := 2) dX1_weigh_46 rfl ?_
  refine w_bipush (v := 28) dX1_weigh_47 rfl ?_
  refine t_callV (t := T_CONT) (As := [_, _, _]) dX1_weigh_49 rfl rM_X1_way (by decide) rfl rfl (by decide) (by decide) (Nat.le_of_ble_eq_true rfl) rfl (hp.1 _ rfl) (c_X1_way hp ?_)
  show s_w _ _ _ 52 _ _ _ _
  refine w_op (pc' := 53) dX1_weigh_52 rfl ?_
  refine w_op (pc' := 54) dX1_weigh_53 rfl ?_
  refine w_op (pc' := 55) dX1_weigh_54 rfl ?_
  refine w_iconst (v := 3) dX1_weigh_55 rfl ?_
  refine w_bipush (v := 31) dX1_weigh_56 rfl ?_
  refine t_callV (t := T_CONT) (As := [_, _, _]) dX1_weigh_58 rfl rM_X1_way (by decide) rfl rfl (by decide) (by decide) (Nat.le_of_ble_eq_true rfl) rfl (hp.1 _ rfl) (c_X1_way hp ?_)
  show s_w _ _ _ 61 _ _ _ _
  refine w_op (pc' := 62) dX1_weigh_61 rfl ?_
  refine w_op (pc' := 64) (ll' := [_, _, _, _, _, _]) dX1_weigh_62 rfl ?_
  refine w_op (pc' := 66) dX1_weigh_64 rfl ?_
  refine w_op (pc' := 67) dX1_weigh_66 rfl ?_
  refine t_getI (F := f_bestBad) dX1_weigh_67 rfl rfl (by decide) rfl ⟨rfl, fun _ => rfl⟩ (hp.1 _ rfl) ?_
  refine w_icmplt (t := 91) dX1_weigh_70 (by decide) (fun c70 => ?_) (fun c70 => ?_)
  · refine w_op (pc' := 92) dX1_weigh_91 rfl ?_
    refine w_op (pc' := 94) dX1_weigh_92 rfl ?_
    refine t_putI (F := f_bestBad) dX1_weigh_94 rfl rfl (by decide) (by decide) rfl rfl (Or.inl rfl) (hp.1 _ rfl) ?_
    refine w_op (pc' := 98) dX1_weigh_97 rfl ?_
    refine w_op (pc' := 100) dX1_weigh_98 rfl ?_
    refine t_putI (F := f_bestWay) dX1_weigh_100 rfl rfl (by decide) (by decide) rfl rfl (Or.inl rfl) (hp.1 _ rfl) ?_
    refine w_op (pc' := 104) dX1_weigh_103 rfl ?_
    refine t_getG0 (G := g_o_trial) dX1_weigh_104 rfl rfl (by decide) rfl (fun _ => rfl) (hp.1 _ rfl) ?_
    refine w_iconst (v := 0) dX1_weigh_107 rfl ?_
    refine w_op (pc' := 109) dX1_weigh_108 rfl ?_
    refine t_getG0 (G := g_o_best) dX1_weigh_109 rfl rfl (by decide) rfl (fun _ => rfl) (hp.1 _ rfl) ?_
    refine w_iconst (v := 0) dX1_weigh_112 rfl ?_
    refine w_iconst (v := 4) dX1_weigh_113 rfl ?_
    refine w_copyII (by decide) rfl (by decide) dX1_weigh_114 (F0 := f_a_trial) (F1 := f_a_best) (m := 4) rfl (by decide) rfl (by decide) rfl rfl (by decide) (hp.1 _ rfl) (hp.1 _ rfl) (by decide +kernel) (by decide +kernel) (by decide +kernel) (by decide) (by decide) (by decide) (by decide) rfl ?_
    exact w_return dX1_weigh_117 ⟨rfl, (by unfold s_wgB s_wgW at k; rw [if_pos (Or.inl c70)] at k; exact k)⟩
  · refine w_op (pc' := 75) dX1_weigh_73 rfl ?_
    refine w_op (pc' := 76) dX1_weigh_75 rfl ?_
    refine t_getI (F := f_bestBad) dX1_weigh_76 rfl rfl (by decide) rfl ⟨rfl, fun _ => rfl⟩ (hp.1 _ rfl) ?_
    refine w_icmpne (t := 117) dX1_weigh_79 (by decide) (fun c79 => ?_) (fun c79 => ?_)
    · exact w_return dX1_weigh_117 ⟨rfl, (by unfold s_wgB s_wgW at k; rw [if_neg (fun z => z.elim (fun u => c70 u) (fun u => c79 u.1))] at k; exact k)⟩
    · refine w_op (pc' := 84) dX1_weigh_82 rfl ?_
      refine w_op (pc' := 85) dX1_weigh_84 rfl ?_
      refine t_getI (F := f_bestWay) dX1_weigh_85 rfl rfl (by decide) rfl ⟨rfl, fun _ => rfl⟩ (hp.1 _ rfl) ?_
      refine w_icmpge (t := 117) dX1_weigh_88 (by decide) (fun c88 => ?_) (fun c88 => ?_)
      · exact w_return dX1_weigh_117 ⟨rfl, (by unfold s_wgB s_wgW at k; rw [if_neg (fun z => z.elim (fun u => c70 u) (fun u => Int32.not_lt.mpr c88 u.2))] at k; exact k)⟩
      · refine w_op (pc' := 92) dX1_weigh_91 rfl ?_
        refine w_op (pc' := 94) dX1_weigh_92 rfl ?_
        refine t_putI (F := f_bestBad) dX1_weigh_94 rfl rfl (by decide) (by decide) rfl rfl (Or.inl rfl) (hp.1 _ rfl) ?_
        refine w_op (pc' := 98) dX1_weigh_97 rfl ?_
        refine w_op (pc' := 100) dX1_weigh_98 rfl ?_
        refine t_putI (F := f_bestWay) dX1_weigh_100 rfl rfl (by decide) (by decide) rfl rfl (Or.inl rfl) (hp.1 _ rfl) ?_
        refine w_op (pc' := 104) dX1_weigh_103 rfl ?_
        refine t_getG0 (G := g_o_trial) dX1_weigh_104 rfl rfl (by decide) rfl (fun _ => rfl) (hp.1 _ rfl) ?_
        refine w_iconst (v := 0) dX1_weigh_107 rfl ?_
        refine w_op (pc' := 109) dX1_weigh_108 rfl ?_
        refine t_getG0 (G := g_o_best) dX1_weigh_109 rfl rfl (by decide) rfl (fun _ => rfl) (hp.1 _ rfl) ?_
        refine w_iconst (v := 0) dX1_weigh_112 rfl ?_
        refine w_iconst (v := 4) dX1_weigh_113 rfl ?_
        refine w_copyII (by decide) rfl (by decide) dX1_weigh_114 (F0 := f_a_trial) (F1 := f_a_best) (m := 4) rfl (by decide) rfl (by decide) rfl rfl (by decide) (hp.1 _ rfl) (hp.1 _ rfl) (by decide +kernel) (by decide +kernel) (by decide +kernel) (by decide) (by decide) (by decide) (by decide) rfl ?_
        exact w_return dX1_weigh_117 ⟨rfl, (by unfold s_wgB s_wgW at k; rw [if_pos (Or.inr ⟨c79, Int32.not_le.mp c88⟩)] at k; exact k)⟩
