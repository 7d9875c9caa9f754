/-! 54: frames, faults, the tape read (printed by wip/whole/p54.py) -/
def s_cpJ (J : e_Jt) (F sp dp m : Nat) : e_Jt := fun F' i => if F' = F ∧ dp ≤ i ∧ i < dp + m then J F (sp + (i - dp)) else J F' i
theorem e_rep.cpyJ {p : e_Sp} {I : e_I} {J : e_Jt} {h : e_Hp} {F t W sp dp m : Nat} (hR : e_rep p I J h) (hF : e_FJ F = (t, 0, W)) (hN : F < e_NJ) (hv : p.2.1 t 0 = true) (h1 : ((List.range e_NJ).all fun F' => decide (F' = F) || decide ((e_FJ F').1 ≠ t)) = true) (h2 : ((List.range e_NI).all fun F' => decide ((e_FI F').1 ≠ t)) = true) (h3 : ((List.range e_NG).all fun G => decide ((e_FG G).1 ≠ t)) = true) (h4 : t ≠ T_LARR ∧ t ≠ T_PARR ∧ t ≠ T_KNOB) (hs : sp + m ≤ W) (hd : dp + m ≤ W) : e_rep p I (s_cpJ J F sp dp m) (e_cpyh h (p.1 t 0) sp (p.1 t 0) dp m) := by
  obtain ⟨r1, r2, r3, r4, r5, r6, r7⟩ := hR
  have key : ∀ t' i s, p.2.1 t' i = true → ¬ (t' = t ∧ i = 0) → e_v (e_cpyh h (p.1 t 0) sp (p.1 t 0) dp m) (p.1 t' i) s = e_v h (p.1 t' i) s := fun t' i s hv1 hn => by
    unfold e_cpyh
    rw [e_rowset_ne (r1.apart hv1 hv hn)]
  refine ⟨r1, fun F' i hF' hv1 => ?_, fun F' i hF' hv1 => ?_, fun G i hG hv1 => ?_, fun l j hl1 hj => ?_, fun r hr => ?_, fun k hk1 => ?_⟩
  · rw [key _ _ _ hv1 (fun z => of_decide_eq_true (e_all h2 hF') z.1)]
    exact r2 F' i hF' hv1
  · rcases (Bool.or_eq_true _ _).mp (e_all h1 hF') with c | c
    · have c := of_decide_eq_true c
      subst c
      have r3' := r3 F' i hF' hv1
      rw [hF] at hv1 r3' ⊢
      have hv1 : p.2.1 t (i / W) = true := hv1
      show e_toJ (e_v _ (p.1 t (i / W)) (0 + i % W)) = _
      have r3' : e_toJ (e_v h (p.1 t (i / W)) (0 + i % W)) = J F' i := r3'
      by_cases e : i / W = 0
      · have hW : 0 < W ∨ W = 0 := by omega
        rcases hW with hW | hW
        · have hi : i < W := (Nat.div_eq_zero_iff_lt hW).mp e
          rw [e] at r3' ⊢
          rw [Nat.mod_eq_of_lt hi, Nat.zero_add] at r3' ⊢
          unfold e_cpyh
          rw [e_rowset_v]
          unfold e_cpyv s_cpJ
          by_cases b : dp ≤ i ∧ i < dp + m
          · rw [if_pos b, if_pos ⟨rfl, b⟩]
            have r4' := r3 F' (sp + (i - dp)) hF' (by rw [hF]; show p.2.1 t ((sp + (i - dp)) / W) = true; rw [Nat.div_eq_of_lt (by omega)]; exact hv)
            rw [hF] at r4'
            have r4' : e_toJ (e_v h (p.1 t ((sp + (i - dp)) / W)) (0 + (sp + (i - dp)) % W)) = J F' (sp + (i - dp)) := r4'
            rw [Nat.div_eq_of_lt (by omega), Nat.mod_eq_of_lt (by omega), Nat.zero_add] at r4'
            exact r4'
          · rw [if_neg b, if_neg (fun z => b z.2)]
            exact r3'
        · subst hW
          have hm : m = 0 := by omega
          subst hm
          unfold s_cpJ
          rw [if_neg (fun z => by omega), ← r3', e]
          unfold e_cpyh
          rw [e_rowset_v]
          unfold e_cpyv
          rw [if_neg (by omega)]
      · rw [key _ _ _ hv1 (fun z => e z.2), r3']
        unfold s_cpJ
        rw [if_neg (fun z => e (Nat.div_eq_of_lt (by omega)))]
    · have c := of_decide_eq_true c
      rw [key _ _ _ hv1 (fun z => c z.1)]
      unfold s_cpJ
      rw [if_neg (fun z => c (by rw [z.1, hF]))]
      exact r3 F' i hF' hv1
  · rw [key _ _ _ hv1 (fun z => of_decide_eq_true (e_all h3 hG) z.1)]
    exact r4 G i hG hv1
  · obtain ⟨q1, q2, q3, q4⟩ := r5 l j hl1 hj
    rw [key _ _ _ q1 (fun z => h4.1 z.1.symm)]
    exact ⟨q1, q2, q3, q4⟩
  · obtain ⟨q1, q2⟩ := r6 r hr
    refine ⟨q1, fun j hj => ⟨(q2 j hj).1, ?_⟩⟩
    rw [key _ _ _ q1 (fun z => h4.2.1 z.1.symm)]
    exact (q2 j hj).2
  · rw [key _ _ _ hk1 (fun z => h4.2.2 z.1.symm), key _ _ _ hk1 (fun z => h4.2.2 z.1.symm)]
    exact r7 k hk1
/-- longs are copied within their row -/
theorem w_copyJ {X : e_XT} {d : Nat} {K : e_KT} {pc ix pl t F W sp dp m : Nat} {x y n : Int32} {ll : e_LL} {rest : List Value} {p : e_Sp} {I : e_I} {J : e_Jt} {c : Nat × Nat} {w : e_Rw1} {Q : e_Rt → e_SS → Prop} (ho31 : K.1 < 33) (hcl : e_cl2 K.1 ix = some (ix, 1001, pl, 0)) (hcat : (rest.map fun v => v.category).sum ≤ 8) (hdg : decode K.2.2.1 pc = .ok (.invokestatic ix, 3)) (hF : e_FJ F = (t, 0, W)) (hN : F < e_NJ) (hT : (e_T t) = (103, W)) (hW : W < 100000) (hv : p.2.1 t 0 = true) (h1 : ((List.range e_NJ).all fun F' => decide (F' = F) || decide ((e_FJ F').1 ≠ t)) = true) (h2 : ((List.range e_NI).all fun F' => decide ((e_FI F').1 ≠ t)) = true) (h3 : ((List.range e_NG).all fun G => decide ((e_FG G).1 ≠ t)) = true) (h4 : t ≠ T_LARR ∧ t ≠ T_PARR ∧ t ≠ T_KNOB) (hx : x = nI sp) (hy : y = nI dp) (hn : n = nI m) (hs : sp + m ≤ W) (hd : dp + m ≤ W) (k : s_w X d K (pc + 3) ll rest (p, I, s_cpJ J F sp dp m, c, w) Q) : s_w X d K pc ll (.int n :: .int y :: .ref (p.1 t 0) :: .int x :: .ref (p.1 t 0) :: rest) (p, I, J, c, w) Q := fun h hs0 => by
  subst hx hy hn
  obtain ⟨q1, q2, q3, q4, q5⟩ := hs0.1.1 t 0 hv
  rw [hT, if_neg (show ¬ (W = 1000000000) by omega)] at q5
  have hs1 : s_is (p, I, s_cpJ J F sp dp m, c, w) (e_cpyh h (p.1 t 0) sp (p.1 t 0) dp m) := ⟨hs0.1.cpyJ hF hN hv h1 h2 h3 h4 hs hd, hs0.2.1, fun a o ho9 => by
    obtain ⟨⟨g1, g2, g3, g4⟩, g5⟩ := hs0.2.2 a o ho9
    exact ⟨⟨g1, g2, g3, fun s => by unfold e_cpyh; rw [e_rowset_ne (fun z => g5 t 0 hv z.symm)]; exact g4 s⟩, g5⟩⟩
  obtain ⟨r, h', S', q, z, j⟩ := k _ hs1
  refine ⟨r, h', S', q, z, e_J.copy (kd := 103) (ci := 0) ho31 hcl hcat hdg q2 q2 (q3.trans (by rw [hT])) (q3.trans (by rw [hT])) (nI_pos (by omega)) (nI_pos (by omega)) (nI_pos (by omega)) ?_ ?_ (Or.inr (Or.inl rfl)) ?_⟩
  · rw [nI_clamp (by omega), nI_clamp (by omega), q5]; exact hs
  · rw [nI_clamp (by omega), nI_clamp (by omega), q5]; exact hd
  · rw [nI_clamp (by omega), nI_clamp (by omega), nI_clamp (by omega)]; exact j
set_option maxRecDepth 100000 in
set_option maxHeartbeats 4000000 in
theorem c_X5_insertFrame {X : e_XT} {d : Nat} {p : e_Sp} {I : e_I} {J : e_Jt} {c : Nat × Nat} {w : e_Rw1} {Q : e_Rt → e_SS → Prop} (hp : s_ok p) (hM : s_Me I) {x : Int32} {y z : Int64} (k1 : (x < 0 ∨ s_frs I < x ∨ 20 ≤ s_frs I) → Q (.inl none) (p, I, J, c, w)) (k2 : ∀ g e m, g < 4 → I f_guest 0 = nI g → I f_a_frameCounts g = nI m → m < 20 → e ≤ m → x = nI e → Q (.inl none) (p, s_up I f_a_frameCounts g (nI (m + 1)), s_up (s_up (s_cpJ (s_cpJ J j_a_frameKept (g * 20 + e) (g * 20 + e + 1) (m - e)) j_a_frameDrawn (g * 20 + e) (g * 20 + e + 1) (m - e)) j_a_frameKept (g * 20 + e) y) j_a_frameDrawn (g * 20 + e) z, c, w)) : s_c X (d + 1) 74 [.ref (p.1 T_MEM 0), .int x, .long y, .long z] (p, I, J, c, w) Q := by
  obtain ⟨g, hg, eg⟩ := hM.1
  obtain ⟨mm, hmm, em⟩ := hM.2.2 g hg
  have hfr : s_frs I = nI mm := by unfold s_frs; rw [eg, nI_clamp (by omega)]; exact em
  refine m_X5_insertFrame (Nat.le_of_ble_eq_true rfl) ?_
  show s_w _ _ _ 0 _ _ _ _
  refine w_op (pc' := 1) dX5_insertFrame_0 rfl ?_
  refine t_callV (t := T_MEM) (As := []) dX5_insertFrame_1 rfl rM_X5_frames (by decide) rfl rfl (by decide) (by decide) (Nat.le_of_ble_eq_true rfl) rfl (hp.1 _ rfl) (c_X5_frames hp hM ?_)
  show s_w _ _ _ 4 _ _ _ _
  refine w_op (pc' := 6) (ll' := [_, _, _, _, _, _, _, _]) dX5_insertFrame_4 rfl ?_
  refine w_op (pc' := 7) dX5_insertFrame_6 rfl ?_
  refine w_iflt (t := 23) dX5_insertFrame_7 (by decide) (fun c7 => ?_) (fun c7 => ?_)
  · exact w_return dX5_insertFrame_23 ⟨rfl, k1 (Or.inl c7)⟩
  · refine w_op (pc' := 11) dX5_insertFrame_10 rfl ?_
    refine w_op (pc' := 13) dX5_insertFrame_11 rfl ?_
    refine w_icmpgt (t := 23) dX5_insertFrame_13 (by decide) (fun c13 => ?_) (fun c13 => ?_)
    · exact w_return dX5_insertFrame_23 ⟨rfl, k1 (Or.inr (Or.inl c13))⟩
    · refine w_op (pc' := 18) dX5_insertFrame_16 rfl ?_
      refine w_bipush (v := 20) dX5_insertFrame_18 rfl ?_
      refine w_icmplt (t := 24) dX5_insertFrame_20 (by decide) (fun c20 => ?_) (fun c20 => ?_)
      · rw [hfr] at c13 c20 ⊢
        have hm20 : mm < 20 := (nI_ltI (b := 20) (by omega) (by omega)).mp c20
        obtain ⟨e, he, rfl⟩ := s_nat (n := mm + 1) (Int32.not_lt.mp c7) (by have h9 := Int32.not_lt.mp c13; exact Int32.lt_of_le_of_lt h9 ((nI_ltI (by omega) (by omega)).mpr (Nat.lt_succ_self mm))) (by omega)
        have hsub : nI mm - nI e = nI (mm - e) := by have := nI_add (mm - e) e; rw [show mm - e + e = mm by omega] at this; rw [← this]; grind
        have hix : I f_guest 0 * 20 + nI e = nI (g * 20 + e) := by rw [eg, show nI g * 20 = nI (g * 20) from (Int32.ofNat_mul g 20).symm, nI_add]
        have hcg : (I f_guest 0).toNatClampNeg = g := by rw [eg, nI_clamp (by omega)]
        refine w_op (pc' := 25) dX5_insertFrame_24 rfl ?_
        refine t_getI (F := f_guest) dX5_insertFrame_25 rfl rfl (by decide) rfl ⟨rfl, fun _ => rfl⟩ (hp.1 _ rfl) ?_
        refine w_bipush (v := 20) dX5_insertFrame_28 rfl ?_
        refine w_op (pc' := 31) dX5_insertFrame_30 rfl ?_
        refine w_op (pc' := 32) dX5_insertFrame_31 rfl ?_
        refine w_op (pc' := 33) dX5_insertFrame_32 rfl ?_
        rw [hix]
        refine w_op (pc' := 35) (ll' := [_, _, _, _, _, _, _, _]) dX5_insertFrame_33 rfl ?_
        refine w_op (pc' := 36) dX5_insertFrame_35 rfl ?_
        refine t_getG0 (G := g_e_frameKept) dX5_insertFrame_36 rfl rfl (by decide) rfl (fun _ => rfl) (hp.1 _ rfl) ?_
        refine w_op (pc' := 41) dX5_insertFrame_39 rfl ?_
        refine w_op (pc' := 42) dX5_insertFrame_41 rfl ?_
        refine t_getG0 (G := g_e_frameKept) dX5_insertFrame_42 rfl rfl (by decide) rfl (fun _ => rfl) (hp.1 _ rfl) ?_
        refine w_op (pc' := 47) dX5_insertFrame_45 rfl ?_
        refine w_iconst (v := 1) dX5_insertFrame_47 rfl ?_
        refine w_op (pc' := 49) dX5_insertFrame_48 rfl ?_
        refine w_op (pc' := 51) dX5_insertFrame_49 rfl ?_
        refine w_op (pc' := 52) dX5_insertFrame_51 rfl ?_
        refine w_op (pc' := 53) dX5_insertFrame_52 rfl ?_
        refine w_copyJ (by decide) rfl (by decide) dX5_insertFrame_53 (F := j_a_frameKept) (sp := g * 20 + e) (dp := g * 20 + e + 1) (m := mm - e) rfl (by decide) rfl (by decide) (hp.1 _ rfl) (by decide +kernel) (by decide +kernel) (by decide +kernel) (by decide) (by first | rfl | (exact nI_1 _)) (by first | rfl | (exact nI_1 _)) hsub (by omega) (by omega) ?_
        refine w_op (pc' := 57) dX5_insertFrame_56 rfl ?_
        refine t_getG0 (G := g_e_frameDrawn) dX5_insertFrame_57 rfl rfl (by decide) rfl (fun _ => rfl) (hp.1 _ rfl) ?_
        refine w_op (pc' := 62) dX5_insertFrame_60 rfl ?_
        refine w_op (pc' := 63) dX5_insertFrame_62 rfl ?_
        refine t_getG0 (G := g_e_frameDrawn) dX5_insertFrame_63 rfl rfl (by decide) rfl (fun _ => rfl) (hp.1 _ rfl) ?_
        refine w_op (pc' := 68) dX5_insertFrame_66 rfl ?_
        refine w_iconst (v := 1) dX5_insertFrame_68 rfl ?_
        refine w_op (pc' := 70) dX5_insertFrame_69 rfl ?_
        refine w_op (pc' := 72) dX5_insertFrame_70 rfl ?_
        refine w_op (pc' := 73) dX5_insertFrame_72 rfl ?_
        refine w_op (pc' := 74) dX5_insertFrame_73 rfl ?_
        refine w_copyJ (by decide) rfl (by decide) dX5_insertFrame_74 (F := j_a_frameDrawn) (sp := g * 20 + e) (dp := g * 20 + e + 1) (m := mm - e) rfl (by decide) rfl (by decide) (hp.1 _ rfl) (by decide +kernel) (by decide +kernel) (by decide +kernel) (by decide) (by first | rfl | (exact nI_1 _)) (by first | rfl | (exact nI_1 _)) hsub (by omega) (by omega) ?_
        refine w_op (pc' := 78) dX5_insertFrame_77 rfl ?_
        refine t_getG0 (G := g_e_frameKept) dX5_insertFrame_78 rfl rfl (by decide) rfl (fun _ => rfl) (hp.1 _ rfl) ?_
        refine w_op (pc' := 83) dX5_insertFrame_81 rfl ?_
        refine w_op (pc' := 84) dX5_insertFrame_83 rfl ?_
        refine t_last0 (F := j_a_frameKept) dX5_insertFrame_84 rfl (by decide) rfl (hp.1 _ rfl) (s_ix.nI (N := 80) (by omega) (by decide)) (by omega) ?_
        refine w_op (pc' := 86) dX5_insertFrame_85 rfl ?_
        refine t_getG0 (G := g_e_frameDrawn) dX5_insertFrame_86 rfl rfl (by decide) rfl (fun _ => rfl) (hp.1 _ rfl) ?_
        refine w_op (pc' := 91) dX5_insertFrame_89 rfl ?_
        refine w_op (pc' := 93) dX5_insertFrame_91 rfl ?_
        refine t_last0 (F := j_a_frameDrawn) dX5_insertFrame_93 rfl (by decide) rfl (hp.1 _ rfl) (s_ix.nI (N := 80) (by omega) (by decide)) (by omega) ?_
        refine w_op (pc' := 95) dX5_insertFrame_94 rfl ?_
        refine t_getG0 (G := g_e_frameCounts) dX5_insertFrame_95 rfl rfl (by decide) rfl (fun _ => rfl) (hp.1 _ rfl) ?_
        refine w_op (pc' := 99) dX5_insertFrame_98 rfl ?_
        refine t_getI (F := f_guest) dX5_insertFrame_99 rfl rfl (by decide) rfl ⟨rfl, fun _ => rfl⟩ (hp.1 _ rfl) ?_
        refine w_op (pc' := 103) dX5_insertFrame_102 rfl ?_
        refine t_iald0 (F := f_a_frameCounts) dX5_insertFrame_103 rfl (by decide) rfl (hp.1 _ rfl) hM.gx hM.gx.2.2 ?_
        refine w_iconst (v := 1) dX5_insertFrame_104 rfl ?_
        refine w_op (pc' := 106) dX5_insertFrame_105 rfl ?_
        refine t_iast0 (F := f_a_frameCounts) dX5_insertFrame_106 rfl (by decide) (by decide) rfl (hp.1 _ rfl) hM.gx hM.gx.2.2 ?_
        exact w_return dX5_insertFrame_107 ⟨rfl, (by have k3 := k2 g e mm hg eg em hm20 (by omega) rfl; rw [← nI_1 mm, ← em] at k3; rw [hcg]; exact k3)⟩
      · exact w_return dX5_insertFrame_23 ⟨rfl, k1 (Or.inr (Or.inr (Int32.not_lt.mp c20)))⟩
