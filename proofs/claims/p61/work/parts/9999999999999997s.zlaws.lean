/-! 9999999999999997s: the law (printed by wip/p61/mks.py) -/
theorem z_S.c {T nk nr np : Nat} {p : e_Sp} {I : e_I} {J : e_Jt} {c : Nat × Nat} (h : z_S T nk nr np p I J c) : c.1 < e_xb := by
  obtain ⟨n, t, s, m, I', J', ⟨hD, hW, ⟨a, b, hTp, ha, hb⟩, ⟨h100, -⟩, -⟩, -⟩ := h
  have hxb : e_xb = 4294967296 := rfl
  obtain ⟨-, ⟨k9, -, hk9, hc9, -⟩, -⟩ := hTp
  omega
theorem z_sh : ∀ a, a < 3 → nI (12 * a) - nI 12 = -12 ∨ nI (12 * a) - nI 12 = 0 ∨ nI (12 * a) - nI 12 = 12 := by decide
theorem z_c4 : ∀ y, y < 4 → z_ch 4 y = 97 ∨ z_ch 4 y = 109 ∨ z_ch 4 y = 98 ∨ z_ch 4 y = 112 := by decide

set_option maxRecDepth 100000 in
set_option maxHeartbeats 800000 in
theorem lw_rank {X : e_XT} {d T ax k9 : Nat} {w : e_Rw1} {Q : e_Rt → e_SS → Prop} {p : e_Sp} {I : e_I} {J : e_Jt} {c : Nat × Nat} {x5 x6 : Option Value} {nk np r9 : Nat} (hX : (X 8).1 = 0) (hX0 : (X 0).1 < 2147483648) (hk : k9 + 10 < 100000) (hT : T < 80) (h : z_S T nk r9 np p I J c) (hax : p.1 T_HALL 0 = ax) (hr : r9 < 3) (k : ∀ np2 p2 c2 R RJ x5 x6, z_S (T + 1) nk (r9 + 1) np2 p2 R RJ c2 → p2.1 T_HALL 0 = ax → s_w X (d + 14) K_L_law 15 [some (.ref (e_xb + 0)), some (.ref ax), some (.int (nI (k9 + 3))), some (.int 1), some (.int (nI (r9 + 1))), x5, x6] [] (p2, R, RJ, c2, w) Q) : s_w X (d + 14) K_L_law 15 [some (.ref (e_xb + 0)), some (.ref ax), some (.int (nI (k9))), some (.int 1), some (.int (nI (r9))), x5, x6] [] (p, I, J, c, w) Q := by
  refine w_op (K := K_L_law) (pc' := 17) (ll' := [some (.ref (e_xb + 0)), some (.ref ax), some (.int (nI (k9))), some (.int 1), some (.int (nI (r9))), x5, x6]) (st' := [.int (nI (r9))]) dL_law_15 rfl ?_
  refine w_iconst (K := K_L_law) (v := (nI 3)) dL_law_17 rfl ?_
  refine w_icmpge (K := K_L_law) (t := 111) dL_law_18 (by decide) (fun c18 => ?_) (fun c18 => ?_)
  · exact absurd ((nI_ltI (by omega) (by decide)).mpr hr) (Int32.not_lt.mpr c18)
  · refine w_op (K := K_L_law) (pc' := 22) (ll' := [some (.ref (e_xb + 0)), some (.ref ax), some (.int (nI (k9))), some (.int 1), some (.int (nI (r9))), x5, x6]) (st' := [.int 1]) dL_law_21 rfl ?_
    refine w_op (K := K_L_law) (pc' := 23) (ll' := [some (.ref (e_xb + 0)), some (.ref ax), some (.int (nI (k9))), some (.int 1), some (.int (nI (r9))), x5, x6]) (st' := [.ref ax, .int 1]) dL_law_22 rfl ?_
    refine w_bipush (K := K_L_law) (v := (nI 36)) dL_law_23 rfl ?_
    refine w_op (K := K_L_law) (pc' := 26) (ll' := [some (.ref (e_xb + 0)), some (.ref ax), some (.int (nI (k9))), some (.int 1), some (.int (nI (r9))), x5, x6]) (st' := [.ref (e_xb + 0), .int (nI 36), .ref ax, .int 1]) dL_law_25 rfl ?_
    refine w_op (K := K_L_law) (pc' := 27) (ll' := [some (.ref (e_xb + 0)), some (.ref ax), some (.int (nI (k9))), some (.int 1), some (.int (nI (r9))), x5, x6]) (st' := [.int (nI (k9)), .ref (e_xb + 0), .int (nI 36), .ref ax, .int 1]) dL_law_26 rfl ?_
    refine w_bipush (K := K_L_law) (v := (nI 9)) dL_law_27 rfl ?_
    refine t_callS (K := K_L_law) (As := [.ref (e_xb + 0), .int (nI (k9)), .int (nI 9)]) (rest := [.int (nI 36), .ref ax, .int 1]) dL_law_29 rfl rM_L_pick (by decide) rfl rfl (by decide) (Nat.le_of_ble_eq_true rfl) (c_pick (d := d + 12) hX0 h.c (by omega) (by decide) (by decide) (fun a1 ha1 => ?_))
    show s_w _ _ _ 32 _ _ _ _
    refine w_op (K := K_L_law) (pc' := 33) (ll' := [some (.ref (e_xb + 0)), some (.ref ax), some (.int (nI (k9))), some (.int 1), some (.int (nI (r9))), x5, x6]) (st' := [.int ((nI 36) + (nI a1)), .ref ax, .int 1]) dL_law_32 rfl ?_
    rw [nI_add]
    refine w_bipush (K := K_L_law) (v := (nI 48)) dL_law_33 rfl ?_
    refine w_op (K := K_L_law) (pc' := 36) (ll' := [some (.ref (e_xb + 0)), some (.ref ax), some (.int (nI (k9))), some (.int 1), some (.int (nI (r9))), x5, x6]) (st' := [.ref (e_xb + 0), .int (nI 48), .int (nI (36 + a1)), .ref ax, .int 1]) dL_law_35 rfl ?_
    refine w_op (K := K_L_law) (pc' := 37) (ll' := [some (.ref (e_xb + 0)), some (.ref ax), some (.int (nI (k9))), some (.int 1), some (.int (nI (r9))), x5, x6]) (st' := [.int (nI (k9)), .ref (e_xb + 0), .int (nI 48), .int (nI (36 + a1)), .ref ax, .int 1]) dL_law_36 rfl ?_
    refine w_iconst (K := K_L_law) (v := (nI 1)) dL_law_37 rfl ?_
    refine w_op (K := K_L_law) (pc' := 39) (ll' := [some (.ref (e_xb + 0)), some (.ref ax), some (.int (nI (k9))), some (.int 1), some (.int (nI (r9))), x5, x6]) (st' := [.int ((nI (k9)) + (nI 1)), .ref (e_xb + 0), .int (nI 48), .int (nI (36 + a1)), .ref ax, .int 1]) dL_law_38 rfl ?_
    rw [nI_add]
    refine w_bipush (K := K_L_law) (v := (nI 30)) dL_law_39 rfl ?_
    refine t_callS (K := K_L_law) (As := [.ref (e_xb + 0), .int (nI (k9 + 1)), .int (nI 30)]) (rest := [.int (nI 48), .int (nI (36 + a1)), .ref ax, .int 1]) dL_law_41 rfl rM_L_pick (by decide) rfl rfl (by decide) (Nat.le_of_ble_eq_true rfl) (c_pick (d := d + 12) hX0 h.c (by omega) (by decide) (by decide) (fun a2 ha2 => ?_))
    show s_w _ _ _ 44 _ _ _ _
    refine w_op (K := K_L_law) (pc' := 45) (ll' := [some (.ref (e_xb + 0)), some (.ref ax), some (.int (nI (k9))), some (.int 1), some (.int (nI (r9))), x5, x6]) (st' := [.int ((nI 48) + (nI a2)), .int (nI (36 + a1)), .ref ax, .int 1]) dL_law_44 rfl ?_
    rw [nI_add]
    refine w_iconst (K := K_L_law) (v := (nI 1)) dL_law_45 rfl ?_
    refine w_op (K := K_L_law) (pc' := 47) (ll' := [some (.ref (e_xb + 0)), some (.ref ax), some (.int (nI (k9))), some (.int 1), some (.int (nI (r9))), x5, x6]) (st' := [.ref (e_xb + 0), .int (nI 1), .int (nI (48 + a2)), .int (nI (36 + a1)), .ref ax, .int 1]) dL_law_46 rfl ?_
    refine w_op (K := K_L_law) (pc' := 48) (ll' := [some (.ref (e_xb + 0)), some (.ref ax), some (.int (nI (k9))), some (.int 1), some (.int (nI (r9))), x5, x6]) (st' := [.int (nI (k9)), .ref (e_xb + 0), .int (nI 1), .int (nI (48 + a2)), .int (nI (36 + a1)), .ref ax, .int 1]) dL_law_47 rfl ?_
    refine w_iconst (K := K_L_law) (v := (nI 2)) dL_law_48 rfl ?_
    refine w_op (K := K_L_law) (pc' := 50) (ll' := [some (.ref (e_xb + 0)), some (.ref ax), some (.int (nI (k9))), some (.int 1), some (.int (nI (r9))), x5, x6]) (st' := [.int ((nI (k9)) + (nI 2)), .ref (e_xb + 0), .int (nI 1), .int (nI (48 + a2)), .int (nI (36 + a1)), .ref ax, .int 1]) dL_law_49 rfl ?_
    rw [nI_add]
    refine w_bipush (K := K_L_law) (v := (nI 9)) dL_law_50 rfl ?_
    refine t_callS (K := K_L_law) (As := [.ref (e_xb + 0), .int (nI (k9 + 2)), .int (nI 9)]) (rest := [.int (nI 1), .int (nI (48 + a2)), .int (nI (36 + a1)), .ref ax, .int 1]) dL_law_52 rfl rM_L_pick (by decide) rfl rfl (by decide) (Nat.le_of_ble_eq_true rfl) (c_pick (d := d + 12) hX0 h.c (by omega) (by decide) (by decide) (fun a3 ha3 => ?_))
    show s_w _ _ _ 55 _ _ _ _
    refine w_op (K := K_L_law) (pc' := 56) (ll' := [some (.ref (e_xb + 0)), some (.ref ax), some (.int (nI (k9))), some (.int 1), some (.int (nI (r9))), x5, x6]) (st' := [.int ((nI 1) + (nI a3)), .int (nI (48 + a2)), .int (nI (36 + a1)), .ref ax, .int 1]) dL_law_55 rfl ?_
    rw [nI_add]
    refine w_op (K := K_L_law) (pc' := 57) (ll' := [some (.ref (e_xb + 0)), some (.ref ax), some (.int (nI (k9))), some (.int 1), some (.int (nI (r9))), x5, x6]) (st' := [.ref (e_xb + 0), .int (nI (1 + a3)), .int (nI (48 + a2)), .int (nI (36 + a1)), .ref ax, .int 1]) dL_law_56 rfl ?_
    refine w_op (K := K_L_law) (pc' := 58) (ll' := [some (.ref (e_xb + 0)), some (.ref ax), some (.int (nI (k9))), some (.int 1), some (.int (nI (r9))), x5, x6]) (st' := [.int (nI (k9)), .ref (e_xb + 0), .int (nI (1 + a3)), .int (nI (48 + a2)), .int (nI (36 + a1)), .ref ax, .int 1]) dL_law_57 rfl ?_
    refine w_iconst (K := K_L_law) (v := (nI 3)) dL_law_58 rfl ?_
    refine t_callS (K := K_L_law) (As := [.ref (e_xb + 0), .int (nI (k9)), .int (nI 3)]) (rest := [.int (nI (1 + a3)), .int (nI (48 + a2)), .int (nI (36 + a1)), .ref ax, .int 1]) dL_law_59 rfl rM_L_pick (by decide) rfl rfl (by decide) (Nat.le_of_ble_eq_true rfl) (c_pick (d := d + 12) hX0 h.c (by omega) (by decide) (by decide) (fun a4 ha4 => ?_))
    show s_w _ _ _ 62 _ _ _ _
    refine w_op (K := K_L_law) (pc' := 63) (ll' := [some (.ref (e_xb + 0)), some (.ref ax), some (.int (nI (k9))), some (.int 1), some (.int (nI (r9))), x5, x6]) (st' := [.ref (e_xb + 0), .int (nI a4), .int (nI (1 + a3)), .int (nI (48 + a2)), .int (nI (36 + a1)), .ref ax, .int 1]) dL_law_62 rfl ?_
    refine w_op (K := K_L_law) (pc' := 64) (ll' := [some (.ref (e_xb + 0)), some (.ref ax), some (.int (nI (k9))), some (.int 1), some (.int (nI (r9))), x5, x6]) (st' := [.int (nI (k9)), .ref (e_xb + 0), .int (nI a4), .int (nI (1 + a3)), .int (nI (48 + a2)), .int (nI (36 + a1)), .ref ax, .int 1]) dL_law_63 rfl ?_
    refine w_iconst (K := K_L_law) (v := (nI 1)) dL_law_64 rfl ?_
    refine w_op (K := K_L_law) (pc' := 66) (ll' := [some (.ref (e_xb + 0)), some (.ref ax), some (.int (nI (k9))), some (.int 1), some (.int (nI (r9))), x5, x6]) (st' := [.int ((nI (k9)) + (nI 1)), .ref (e_xb + 0), .int (nI a4), .int (nI (1 + a3)), .int (nI (48 + a2)), .int (nI (36 + a1)), .ref ax, .int 1]) dL_law_65 rfl ?_
    rw [nI_add]
    refine w_iconst (K := K_L_law) (v := (nI 3)) dL_law_66 rfl ?_
    refine t_callS (K := K_L_law) (As := [.ref (e_xb + 0), .int (nI (k9 + 1)), .int (nI 3)]) (rest := [.int (nI a4), .int (nI (1 + a3)), .int (nI (48 + a2)), .int (nI (36 + a1)), .ref ax, .int 1]) dL_law_67 rfl rM_L_pick (by decide) rfl rfl (by decide) (Nat.le_of_ble_eq_true rfl) (c_pick (d := d + 12) hX0 h.c (by omega) (by decide) (by decide) (fun a5 ha5 => ?_))
    show s_w _ _ _ 70 _ _ _ _
    refine w_op (K := K_L_law) (pc' := 71) (ll' := [some (.ref (e_xb + 0)), some (.ref ax), some (.int (nI (k9))), some (.int 1), some (.int (nI (r9))), x5, x6]) (st' := [.ref (e_xb + 0), .int (nI a5), .int (nI a4), .int (nI (1 + a3)), .int (nI (48 + a2)), .int (nI (36 + a1)), .ref ax, .int 1]) dL_law_70 rfl ?_
    refine w_op (K := K_L_law) (pc' := 72) (ll' := [some (.ref (e_xb + 0)), some (.ref ax), some (.int (nI (k9))), some (.int 1), some (.int (nI (r9))), x5, x6]) (st' := [.int (nI (k9)), .ref (e_xb + 0), .int (nI a5), .int (nI a4), .int (nI (1 + a3)), .int (nI (48 + a2)), .int (nI (36 + a1)), .ref ax, .int 1]) dL_law_71 rfl ?_
    refine w_iconst (K := K_L_law) (v := (nI 2)) dL_law_72 rfl ?_
    refine w_op (K := K_L_law) (pc' := 74) (ll' := [some (.ref (e_xb + 0)), some (.ref ax), some (.int (nI (k9))), some (.int 1), some (.int (nI (r9))), x5, x6]) (st' := [.int ((nI (k9)) + (nI 2)), .ref (e_xb + 0), .int (nI a5), .int (nI a4), .int (nI (1 + a3)), .int (nI (48 + a2)), .int (nI (36 + a1)), .ref ax, .int 1]) dL_law_73 rfl ?_
    rw [nI_add]
    refine w_iconst (K := K_L_law) (v := (nI 3)) dL_law_74 rfl ?_
    refine t_callS (K := K_L_law) (As := [.ref (e_xb + 0), .int (nI (k9 + 2)), .int (nI 3)]) (rest := [.int (nI a5), .int (nI a4), .int (nI (1 + a3)), .int (nI (48 + a2)), .int (nI (36 + a1)), .ref ax, .int 1]) dL_law_75 rfl rM_L_pick (by decide) rfl rfl (by decide) (Nat.le_of_ble_eq_true rfl) (c_pick (d := d + 12) hX0 h.c (by omega) (by decide) (by decide) (fun a6 ha6 => ?_))
    show s_w _ _ _ 78 _ _ _ _
    refine w_iconst (K := K_L_law) (v := (nI 1)) dL_law_78 rfl ?_
    refine w_op (K := K_L_law) (pc' := 80) (ll' := [some (.ref (e_xb + 0)), some (.ref ax), some (.int (nI (k9))), some (.int 1), some (.int (nI (r9))), x5, x6]) (st' := [.ref (e_xb + 0), .int (nI 1), .int (nI a6), .int (nI a5), .int (nI a4), .int (nI (1 + a3)), .int (nI (48 + a2)), .int (nI (36 + a1)), .ref ax, .int 1]) dL_law_79 rfl ?_
    refine w_op (K := K_L_law) (pc' := 81) (ll' := [some (.ref (e_xb + 0)), some (.ref ax), some (.int (nI (k9))), some (.int 1), some (.int (nI (r9))), x5, x6]) (st' := [.int (nI (k9)), .ref (e_xb + 0), .int (nI 1), .int (nI a6), .int (nI a5), .int (nI a4), .int (nI (1 + a3)), .int (nI (48 + a2)), .int (nI (36 + a1)), .ref ax, .int 1]) dL_law_80 rfl ?_
    refine w_bipush (K := K_L_law) (v := (nI 90)) dL_law_81 rfl ?_
    refine t_call9 (K := K_L_law) (As := [.ref (e_xb + 0), .int (nI (k9)), .int (nI 90)]) (rest := [.int (nI 1), .int (nI a6), .int (nI a5), .int (nI a4), .int (nI (1 + a3)), .int (nI (48 + a2)), .int (nI (36 + a1)), .ref ax, .int 1]) dL_law_83 rfl rM_L_pick rC_L_pick (by decide) (by decide) rfl rfl (by decide) (Nat.le_of_ble_eq_true rfl) (c_pick (d := d + 12) hX0 h.c (by omega) (by decide) (by decide) (fun a7 ha7 => ?_))
    refine ⟨_, rfl, ?_⟩
    show s_w _ _ _ 86 _ _ _ _
    refine w_op (K := K_L_law) (pc' := 87) (ll' := [some (.ref (e_xb + 0)), some (.ref ax), some (.int (nI (k9))), some (.int 1), some (.int (nI (r9))), x5, x6]) (st' := [.int ((nI 1) + (nI a7)), .int (nI a6), .int (nI a5), .int (nI a4), .int (nI (1 + a3)), .int (nI (48 + a2)), .int (nI (36 + a1)), .ref ax, .int 1]) dL_law_86 rfl ?_
    rw [nI_add]
    refine t_callS (K := K_L_law) (As := [.ref ax, .int (nI (36 + a1)), .int (nI (48 + a2)), .int (nI (1 + a3)), .int (nI a4), .int (nI a5), .int (nI a6), .int (nI (1 + a7))]) (rest := [.int 1]) dL_law_87 rfl rM_L_rank (by decide) rfl rfl (by decide) (Nat.le_of_ble_eq_true rfl) (g_rank (d := d + 2) hX (by omega) h hax hr ⟨by omega, by omega⟩ ⟨by omega, by omega⟩ ⟨by omega, by omega⟩ ha4 (by omega) (by omega) ⟨by omega, by omega⟩ (fun p1 c1 R1 RJ1 h1 hax1 => ?_))
    show s_w _ _ _ 90 _ _ _ _
    refine w_op (K := K_L_law) (pc' := 92) (ll' := [some (.ref (e_xb + 0)), some (.ref ax), some (.int (nI (k9))), some (.int 1), some (.int (nI (r9))), x5, x6]) (st' := [.int (nI (r9)), .int (nI r9), .int 1]) dL_law_90 rfl ?_
    refine w_icmpne (K := K_L_law) (t := 99) dL_law_92 (by decide) (fun c92 => ?_) (fun c92 => ?_)
    · exact absurd rfl c92
    · refine w_iconst (K := K_L_law) (v := 1) dL_law_95 rfl ?_
      refine w_goto (K := K_L_law) (t := 100) dL_law_96 (by decide) ?_
      refine w_op (K := K_L_law) (pc' := 101) (ll' := [some (.ref (e_xb + 0)), some (.ref ax), some (.int (nI (k9))), some (.int 1), some (.int (nI (r9))), x5, x6]) (st' := [.int (1 &&& 1)]) dL_law_100 rfl ?_
      rw [show (1 : Int32) &&& 1 = 1 by decide]
      refine w_op (K := K_L_law) (pc' := 102) (ll' := [some (.ref (e_xb + 0)), some (.ref ax), some (.int (nI (k9))), some (.int 1), some (.int (nI (r9))), x5, x6]) (st' := []) dL_law_101 rfl ?_
      refine w_op (K := K_L_law) (pc' := 105) (ll' := [some (.ref (e_xb + 0)), some (.ref ax), some (.int ((nI (k9)) + 3)), some (.int 1), some (.int (nI (r9))), x5, x6]) (st' := []) dL_law_102 rfl ?_
      rw [show nI k9 + 3 = nI (k9 + 3) from nI_add k9 3]
      refine w_op (K := K_L_law) (pc' := 108) (ll' := [some (.ref (e_xb + 0)), some (.ref ax), some (.int (nI (k9 + 3))), some (.int 1), some (.int ((nI (r9)) + 1)), x5, x6]) (st' := []) dL_law_105 rfl ?_
      rw [show nI r9 + 1 = nI (r9 + 1) from nI_1 r9]
      refine w_goto (K := K_L_law) (t := 15) dL_law_108 (by decide) ?_
      exact k _ p1 c1 R1 RJ1 _ _ h1 hax1

set_option maxRecDepth 100000 in
set_option maxHeartbeats 800000 in
theorem lw_stop {X : e_XT} {d T ax k9 : Nat} {w : e_Rw1} {Q : e_Rt → e_SS → Prop} {p : e_Sp} {I : e_I} {J : e_Jt} {c : Nat × Nat} {x5 x6 : Option Value} {np n9 : Nat} (hX : (X 8).1 = 0) (hX0 : (X 0).1 < 2147483648) (hk : k9 + 10 < 100000) (hT : T < 80) (h : z_S T n9 3 np p I J c) (hax : p.1 T_HALL 0 = ax) (hn : 3 ≤ n9 ∧ n9 < 6) (k : ∀ p2 c2 R RJ x5 x6, z_S (T + 1 + 1) (n9 + 1) 3 np p2 R RJ c2 → p2.1 T_HALL 0 = ax → s_w X (d + 14) K_L_law 114 [some (.ref (e_xb + 0)), some (.ref ax), some (.int (nI (k9 + 3))), some (.int 1), some (.int (nI (n9 + 1))), x5, x6] [] (p2, R, RJ, c2, w) Q) : s_w X (d + 14) K_L_law 114 [some (.ref (e_xb + 0)), some (.ref ax), some (.int (nI (k9))), some (.int 1), some (.int (nI (n9))), x5, x6] [] (p, I, J, c, w) Q := by
  refine w_op (K := K_L_law) (pc' := 116) (ll' := [some (.ref (e_xb + 0)), some (.ref ax), some (.int (nI (k9))), some (.int 1), some (.int (nI (n9))), x5, x6]) (st' := [.int (nI (n9))]) dL_law_114 rfl ?_
  refine w_bipush (K := K_L_law) (v := (nI 9)) dL_law_116 rfl ?_
  refine w_icmpge (K := K_L_law) (t := 275) dL_law_118 (by decide) (fun c118 => ?_) (fun c118 => ?_)
  · exact absurd ((nI_ltI (by omega) (by decide)).mpr (by omega)) (Int32.not_lt.mpr c118)
  · refine w_op (K := K_L_law) (pc' := 122) (ll' := [some (.ref (e_xb + 0)), some (.ref ax), some (.int (nI (k9))), some (.int 1), some (.int (nI (n9))), x5, x6]) (st' := [.ref (e_xb + 0)]) dL_law_121 rfl ?_
    refine w_op (K := K_L_law) (pc' := 123) (ll' := [some (.ref (e_xb + 0)), some (.ref ax), some (.int (nI (k9))), some (.int 1), some (.int (nI (n9))), x5, x6]) (st' := [.int (nI (k9)), .ref (e_xb + 0)]) dL_law_122 rfl ?_
    refine w_iconst (K := K_L_law) (v := (nI 3)) dL_law_123 rfl ?_
    refine t_callS (K := K_L_law) (As := [.ref (e_xb + 0), .int (nI (k9)), .int (nI 3)]) (rest := []) dL_law_124 rfl rM_L_pick (by decide) rfl rfl (by decide) (Nat.le_of_ble_eq_true rfl) (c_pick (d := d + 12) hX0 h.c (by omega) (by decide) (by decide) (fun a1 ha1 => ?_))
    show s_w _ _ _ 127 _ _ _ _
    refine w_op (K := K_L_law) (pc' := 129) (ll' := [some (.ref (e_xb + 0)), some (.ref ax), some (.int (nI (k9))), some (.int 1), some (.int (nI (n9))), some (.int (nI a1)), x6]) (st' := []) dL_law_127 rfl ?_
    refine w_op (K := K_L_law) (pc' := 131) (ll' := [some (.ref (e_xb + 0)), some (.ref ax), some (.int (nI (k9))), some (.int 1), some (.int (nI (n9))), some (.int (nI a1)), x6]) (st' := [.int (nI (n9))]) dL_law_129 rfl ?_
    refine w_bipush (K := K_L_law) (v := (nI 6)) dL_law_131 rfl ?_
    refine w_icmpge (K := K_L_law) (t := 145) dL_law_133 (by decide) (fun c133 => ?_) (fun c133 => ?_)
    · exact absurd ((nI_ltI (by omega) (by decide)).mpr (by omega)) (Int32.not_lt.mpr c133)
    · refine w_op (K := K_L_law) (pc' := 137) (ll' := [some (.ref (e_xb + 0)), some (.ref ax), some (.int (nI (k9))), some (.int 1), some (.int (nI (n9))), some (.int (nI a1)), x6]) (st' := [.ref ax]) dL_law_136 rfl ?_
      refine w_op (K := K_L_law) (pc' := 139) (ll' := [some (.ref (e_xb + 0)), some (.ref ax), some (.int (nI (k9))), some (.int 1), some (.int (nI (n9))), some (.int (nI a1)), x6]) (st' := [.int (nI a1), .ref ax]) dL_law_137 rfl ?_
      refine t_callS (K := K_L_law) (As := [.ref ax, .int (nI a1)]) (rest := []) dL_law_139 rfl rM_L_stop (by decide) rfl rfl (by decide) (Nat.le_of_ble_eq_true rfl) (g_stop (d := d + 2) hX (by omega) h hax ha1 hn (fun p1 c1 R1 RJ1 h1 hax1 hz1 hz2 => ?_))
      show s_w _ _ _ 142 _ _ _ _
      refine w_goto (K := K_L_law) (t := 200) dL_law_142 (by decide) ?_
      refine w_op (K := K_L_law) (pc' := 202) (ll' := [some (.ref (e_xb + 0)), some (.ref ax), some (.int (nI (k9))), some (.int 1), some (.int (nI (n9))), some (.int (nI a1)), some (.int (nI n9))]) (st' := []) dL_law_200 rfl ?_
      refine w_op (K := K_L_law) (pc' := 203) (ll' := [some (.ref (e_xb + 0)), some (.ref ax), some (.int (nI (k9))), some (.int 1), some (.int (nI (n9))), some (.int (nI a1)), some (.int (nI n9))]) (st' := [.int 1]) dL_law_202 rfl ?_
      refine w_op (K := K_L_law) (pc' := 205) (ll' := [some (.ref (e_xb + 0)), some (.ref ax), some (.int (nI (k9))), some (.int 1), some (.int (nI (n9))), some (.int (nI a1)), some (.int (nI n9))]) (st' := [.int (nI n9), .int 1]) dL_law_203 rfl ?_
      refine w_op (K := K_L_law) (pc' := 207) (ll' := [some (.ref (e_xb + 0)), some (.ref ax), some (.int (nI (k9))), some (.int 1), some (.int (nI (n9))), some (.int (nI a1)), some (.int (nI n9))]) (st' := [.int (nI (n9)), .int (nI n9), .int 1]) dL_law_205 rfl ?_
      refine w_icmpne (K := K_L_law) (t := 263) dL_law_207 (by decide) (fun c207 => ?_) (fun c207 => ?_)
      · exact absurd rfl c207
      · refine w_op (K := K_L_law) (pc' := 212) (ll' := [some (.ref (e_xb + 0)), some (.ref ax), some (.int (nI (k9))), some (.int 1), some (.int (nI (n9))), some (.int (nI a1)), some (.int (nI n9))]) (st' := [.int (nI (n9)), .int 1]) dL_law_210 rfl ?_
        refine w_iconst (K := K_L_law) (v := (nI 5)) dL_law_212 rfl ?_
        refine w_icmpgt (K := K_L_law) (t := 259) dL_law_213 (by decide) (fun c213 => ?_) (fun c213 => ?_)
        · exact absurd (nI_le (a := n9) (b := 5) (by omega) (by decide)) (Int32.not_le.mpr c213)
        · refine w_op (K := K_L_law) (pc' := 217) (ll' := [some (.ref (e_xb + 0)), some (.ref ax), some (.int (nI (k9))), some (.int 1), some (.int (nI (n9))), some (.int (nI a1)), some (.int (nI n9))]) (st' := [.ref ax, .int 1]) dL_law_216 rfl ?_
          refine w_op (K := K_L_law) (pc' := 219) (ll' := [some (.ref (e_xb + 0)), some (.ref ax), some (.int (nI (k9))), some (.int 1), some (.int (nI (n9))), some (.int (nI a1)), some (.int (nI n9))]) (st' := [.int (nI (n9)), .ref ax, .int 1]) dL_law_217 rfl ?_
          refine w_op (K := K_L_law) (pc' := 220) (ll' := [some (.ref (e_xb + 0)), some (.ref ax), some (.int (nI (k9))), some (.int 1), some (.int (nI (n9))), some (.int (nI a1)), some (.int (nI n9))]) (st' := [.ref (e_xb + 0), .int (nI (n9)), .ref ax, .int 1]) dL_law_219 rfl ?_
          refine w_op (K := K_L_law) (pc' := 221) (ll' := [some (.ref (e_xb + 0)), some (.ref ax), some (.int (nI (k9))), some (.int 1), some (.int (nI (n9))), some (.int (nI a1)), some (.int (nI n9))]) (st' := [.int (nI (k9)), .ref (e_xb + 0), .int (nI (n9)), .ref ax, .int 1]) dL_law_220 rfl ?_
          refine w_iconst (K := K_L_law) (v := (nI 1)) dL_law_221 rfl ?_
          refine w_op (K := K_L_law) (pc' := 223) (ll' := [some (.ref (e_xb + 0)), some (.ref ax), some (.int (nI (k9))), some (.int 1), some (.int (nI (n9))), some (.int (nI a1)), some (.int (nI n9))]) (st' := [.int ((nI (k9)) + (nI 1)), .ref (e_xb + 0), .int (nI (n9)), .ref ax, .int 1]) dL_law_222 rfl ?_
          rw [nI_add]
          refine w_iconst (K := K_L_law) (v := (nI 3)) dL_law_223 rfl ?_
          refine t_callS (K := K_L_law) (As := [.ref (e_xb + 0), .int (nI (k9 + 1)), .int (nI 3)]) (rest := [.int (nI (n9)), .ref ax, .int 1]) dL_law_224 rfl rM_L_pick (by decide) rfl rfl (by decide) (Nat.le_of_ble_eq_true rfl) (c_pick (d := d + 12) hX0 h1.c (by omega) (by decide) (by decide) (fun a2 ha2 => ?_))
          show s_w _ _ _ 227 _ _ _ _
          refine w_bipush (K := K_L_law) (v := (nI 12)) dL_law_227 rfl ?_
          refine w_op (K := K_L_law) (pc' := 230) (ll' := [some (.ref (e_xb + 0)), some (.ref ax), some (.int (nI (k9))), some (.int 1), some (.int (nI (n9))), some (.int (nI a1)), some (.int (nI n9))]) (st' := [.ref (e_xb + 0), .int (nI 12), .int (nI a2), .int (nI (n9)), .ref ax, .int 1]) dL_law_229 rfl ?_
          refine w_op (K := K_L_law) (pc' := 231) (ll' := [some (.ref (e_xb + 0)), some (.ref ax), some (.int (nI (k9))), some (.int 1), some (.int (nI (n9))), some (.int (nI a1)), some (.int (nI n9))]) (st' := [.int (nI (k9)), .ref (e_xb + 0), .int (nI 12), .int (nI a2), .int (nI (n9)), .ref ax, .int 1]) dL_law_230 rfl ?_
          refine w_iconst (K := K_L_law) (v := (nI 2)) dL_law_231 rfl ?_
          refine w_op (K := K_L_law) (pc' := 233) (ll' := [some (.ref (e_xb + 0)), some (.ref ax), some (.int (nI (k9))), some (.int 1), some (.int (nI (n9))), some (.int (nI a1)), some (.int (nI n9))]) (st' := [.int ((nI (k9)) + (nI 2)), .ref (e_xb + 0), .int (nI 12), .int (nI a2), .int (nI (n9)), .ref ax, .int 1]) dL_law_232 rfl ?_
          rw [nI_add]
          refine w_iconst (K := K_L_law) (v := (nI 3)) dL_law_233 rfl ?_
          refine t_callS (K := K_L_law) (As := [.ref (e_xb + 0), .int (nI (k9 + 2)), .int (nI 3)]) (rest := [.int (nI 12), .int (nI a2), .int (nI (n9)), .ref ax, .int 1]) dL_law_234 rfl rM_L_pick (by decide) rfl rfl (by decide) (Nat.le_of_ble_eq_true rfl) (c_pick (d := d + 12) hX0 h1.c (by omega) (by decide) (by decide) (fun a3 ha3 => ?_))
          show s_w _ _ _ 237 _ _ _ _
          refine w_op (K := K_L_law) (pc' := 238) (ll' := [some (.ref (e_xb + 0)), some (.ref ax), some (.int (nI (k9))), some (.int 1), some (.int (nI (n9))), some (.int (nI a1)), some (.int (nI n9))]) (st' := [.int ((nI 12) * (nI a3)), .int (nI a2), .int (nI (n9)), .ref ax, .int 1]) dL_law_237 rfl ?_
          rw [v_nmul]
          refine w_bipush (K := K_L_law) (v := (nI 12)) dL_law_238 rfl ?_
          refine w_op (K := K_L_law) (pc' := 241) (ll' := [some (.ref (e_xb + 0)), some (.ref ax), some (.int (nI (k9))), some (.int 1), some (.int (nI (n9))), some (.int (nI a1)), some (.int (nI n9))]) (st' := [.int ((nI (12 * a3)) - (nI 12)), .int (nI a2), .int (nI (n9)), .ref ax, .int 1]) dL_law_240 rfl ?_
          refine w_iconst (K := K_L_law) (v := (nI 0)) dL_law_241 rfl ?_
          refine w_bipush (K := K_L_law) (v := (nI 10)) dL_law_242 rfl ?_
          refine w_op (K := K_L_law) (pc' := 245) (ll' := [some (.ref (e_xb + 0)), some (.ref ax), some (.int (nI (k9))), some (.int 1), some (.int (nI (n9))), some (.int (nI a1)), some (.int (nI n9))]) (st' := [.ref (e_xb + 0), .int (nI 10), .int (nI 0), .int ((nI (12 * a3)) - (nI 12)), .int (nI a2), .int (nI (n9)), .ref ax, .int 1]) dL_law_244 rfl ?_
          refine w_op (K := K_L_law) (pc' := 246) (ll' := [some (.ref (e_xb + 0)), some (.ref ax), some (.int (nI (k9))), some (.int 1), some (.int (nI (n9))), some (.int (nI a1)), some (.int (nI n9))]) (st' := [.int (nI (k9)), .ref (e_xb + 0), .int (nI 10), .int (nI 0), .int ((nI (12 * a3)) - (nI 12)), .int (nI a2), .int (nI (n9)), .ref ax, .int 1]) dL_law_245 rfl ?_
          refine w_bipush (K := K_L_law) (v := (nI 40)) dL_law_246 rfl ?_
          refine t_callS (K := K_L_law) (As := [.ref (e_xb + 0), .int (nI (k9)), .int (nI 40)]) (rest := [.int (nI 10), .int (nI 0), .int ((nI (12 * a3)) - (nI 12)), .int (nI a2), .int (nI (n9)), .ref ax, .int 1]) dL_law_248 rfl rM_L_pick (by decide) rfl rfl (by decide) (Nat.le_of_ble_eq_true rfl) (c_pick (d := d + 12) hX0 h1.c (by omega) (by decide) (by decide) (fun a4 ha4 => ?_))
          show s_w _ _ _ 251 _ _ _ _
          refine w_op (K := K_L_law) (pc' := 252) (ll' := [some (.ref (e_xb + 0)), some (.ref ax), some (.int (nI (k9))), some (.int 1), some (.int (nI (n9))), some (.int (nI a1)), some (.int (nI n9))]) (st' := [.int ((nI 10) + (nI a4)), .int (nI 0), .int ((nI (12 * a3)) - (nI 12)), .int (nI a2), .int (nI (n9)), .ref ax, .int 1]) dL_law_251 rfl ?_
          rw [nI_add]
          refine t_callS (K := K_L_law) (As := [.ref ax, .int (nI (n9)), .int (nI a2), .int ((nI (12 * a3)) - (nI 12)), .int (nI 0), .int (nI (10 + a4))]) (rest := [.int 1]) dL_law_252 rfl rM_L_row (by decide) rfl rfl (by decide) (Nat.le_of_ble_eq_true rfl) (g_row (d := d + 2) (by omega) h1 hax1 (by omega) (show n9 < n9 + 1 by omega) (show a2 < 3 from ha2) (z_sh a3 ha3) ⟨by omega, by omega⟩ hz1 hz2 (fun p2 c2 R2 RJ2 h2 hax2 => ?_))
          show s_w _ _ _ 255 _ _ _ _
          refine w_iconst (K := K_L_law) (v := 1) dL_law_255 rfl ?_
          refine w_icmpne (K := K_L_law) (t := 263) dL_law_256 (by decide) (fun c256 => ?_) (fun c256 => ?_)
          · exact absurd rfl c256
          · refine w_iconst (K := K_L_law) (v := 1) dL_law_259 rfl ?_
            refine w_goto (K := K_L_law) (t := 264) dL_law_260 (by decide) ?_
            refine w_op (K := K_L_law) (pc' := 265) (ll' := [some (.ref (e_xb + 0)), some (.ref ax), some (.int (nI (k9))), some (.int 1), some (.int (nI (n9))), some (.int (nI a1)), some (.int (nI n9))]) (st' := [.int (1 &&& 1)]) dL_law_264 rfl ?_
            rw [show (1 : Int32) &&& 1 = 1 by decide]
            refine w_op (K := K_L_law) (pc' := 266) (ll' := [some (.ref (e_xb + 0)), some (.ref ax), some (.int (nI (k9))), some (.int 1), some (.int (nI (n9))), some (.int (nI a1)), some (.int (nI n9))]) (st' := []) dL_law_265 rfl ?_
            refine w_op (K := K_L_law) (pc' := 269) (ll' := [some (.ref (e_xb + 0)), some (.ref ax), some (.int ((nI (k9)) + 3)), some (.int 1), some (.int (nI (n9))), some (.int (nI a1)), some (.int (nI n9))]) (st' := []) dL_law_266 rfl ?_
            rw [show nI k9 + 3 = nI (k9 + 3) from nI_add k9 3]
            refine w_op (K := K_L_law) (pc' := 272) (ll' := [some (.ref (e_xb + 0)), some (.ref ax), some (.int (nI (k9 + 3))), some (.int 1), some (.int ((nI (n9)) + 1)), some (.int (nI a1)), some (.int (nI n9))]) (st' := []) dL_law_269 rfl ?_
            rw [show nI n9 + 1 = nI (n9 + 1) from nI_1 n9]
            refine w_goto (K := K_L_law) (t := 114) dL_law_272 (by decide) ?_
            exact k _ _ _ _ _ _ h2 hax2

set_option maxRecDepth 100000 in
set_option maxHeartbeats 800000 in
theorem lw_coupler {X : e_XT} {d T ax k9 : Nat} {w : e_Rw1} {Q : e_Rt → e_SS → Prop} {p : e_Sp} {I : e_I} {J : e_Jt} {c : Nat × Nat} {x5 x6 : Option Value} {np n9 : Nat} (hX : (X 8).1 = 0) (hX0 : (X 0).1 < 2147483648) (hk : k9 + 10 < 100000) (hT : T < 80) (h : z_S T n9 3 np p I J c) (hax : p.1 T_HALL 0 = ax) (hn : 6 ≤ n9 ∧ n9 < 8) (k : ∀ p2 c2 R RJ x5 x6, z_S (T + 1) (n9 + 1) 3 np p2 R RJ c2 → p2.1 T_HALL 0 = ax → s_w X (d + 14) K_L_law 114 [some (.ref (e_xb + 0)), some (.ref ax), some (.int (nI (k9 + 3))), some (.int 1), some (.int (nI (n9 + 1))), x5, x6] [] (p2, R, RJ, c2, w) Q) : s_w X (d + 14) K_L_law 114 [some (.ref (e_xb + 0)), some (.ref ax), some (.int (nI (k9))), some (.int 1), some (.int (nI (n9))), x5, x6] [] (p, I, J, c, w) Q := by
  refine w_op (K := K_L_law) (pc' := 116) (ll' := [some (.ref (e_xb + 0)), some (.ref ax), some (.int (nI (k9))), some (.int 1), some (.int (nI (n9))), x5, x6]) (st' := [.int (nI (n9))]) dL_law_114 rfl ?_
  refine w_bipush (K := K_L_law) (v := (nI 9)) dL_law_116 rfl ?_
  refine w_icmpge (K := K_L_law) (t := 275) dL_law_118 (by decide) (fun c118 => ?_) (fun c118 => ?_)
  · exact absurd ((nI_ltI (by omega) (by decide)).mpr (by omega)) (Int32.not_lt.mpr c118)
  · refine w_op (K := K_L_law) (pc' := 122) (ll' := [some (.ref (e_xb + 0)), some (.ref ax), some (.int (nI (k9))), some (.int 1), some (.int (nI (n9))), x5, x6]) (st' := [.ref (e_xb + 0)]) dL_law_121 rfl ?_
    refine w_op (K := K_L_law) (pc' := 123) (ll' := [some (.ref (e_xb + 0)), some (.ref ax), some (.int (nI (k9))), some (.int 1), some (.int (nI (n9))), x5, x6]) (st' := [.int (nI (k9)), .ref (e_xb + 0)]) dL_law_122 rfl ?_
    refine w_iconst (K := K_L_law) (v := (nI 3)) dL_law_123 rfl ?_
    refine t_callS (K := K_L_law) (As := [.ref (e_xb + 0), .int (nI (k9)), .int (nI 3)]) (rest := []) dL_law_124 rfl rM_L_pick (by decide) rfl rfl (by decide) (Nat.le_of_ble_eq_true rfl) (c_pick (d := d + 12) hX0 h.c (by omega) (by decide) (by decide) (fun a1 ha1 => ?_))
    show s_w _ _ _ 127 _ _ _ _
    refine w_op (K := K_L_law) (pc' := 129) (ll' := [some (.ref (e_xb + 0)), some (.ref ax), some (.int (nI (k9))), some (.int 1), some (.int (nI (n9))), some (.int (nI a1)), x6]) (st' := []) dL_law_127 rfl ?_
    refine w_op (K := K_L_law) (pc' := 131) (ll' := [some (.ref (e_xb + 0)), some (.ref ax), some (.int (nI (k9))), some (.int 1), some (.int (nI (n9))), some (.int (nI a1)), x6]) (st' := [.int (nI (n9))]) dL_law_129 rfl ?_
    refine w_bipush (K := K_L_law) (v := (nI 6)) dL_law_131 rfl ?_
    refine w_icmpge (K := K_L_law) (t := 145) dL_law_133 (by decide) (fun c133 => ?_) (fun c133 => ?_)
    · refine w_op (K := K_L_law) (pc' := 147) (ll' := [some (.ref (e_xb + 0)), some (.ref ax), some (.int (nI (k9))), some (.int 1), some (.int (nI (n9))), some (.int (nI a1)), x6]) (st' := [.int (nI (n9))]) dL_law_145 rfl ?_
      refine w_bipush (K := K_L_law) (v := (nI 8)) dL_law_147 rfl ?_
      refine w_icmpge (K := K_L_law) (t := 194) dL_law_149 (by decide) (fun c149 => ?_) (fun c149 => ?_)
      · exact absurd ((nI_ltI (by omega) (by decide)).mpr (by omega)) (Int32.not_lt.mpr c149)
      · refine w_op (K := K_L_law) (pc' := 153) (ll' := [some (.ref (e_xb + 0)), some (.ref ax), some (.int (nI (k9))), some (.int 1), some (.int (nI (n9))), some (.int (nI a1)), x6]) (st' := [.ref ax]) dL_law_152 rfl ?_
        refine w_op (K := K_L_law) (pc' := 155) (ll' := [some (.ref (e_xb + 0)), some (.ref ax), some (.int (nI (k9))), some (.int 1), some (.int (nI (n9))), some (.int (nI a1)), x6]) (st' := [.int (nI a1), .ref ax]) dL_law_153 rfl ?_
        refine w_op (K := K_L_law) (pc' := 157) (ll' := [some (.ref (e_xb + 0)), some (.ref ax), some (.int (nI (k9))), some (.int 1), some (.int (nI (n9))), some (.int (nI a1)), x6]) (st' := [.int (nI a1), .int (nI a1), .ref ax]) dL_law_155 rfl ?_
        refine w_iconst (K := K_L_law) (v := 1) dL_law_157 rfl ?_
        refine w_op (K := K_L_law) (pc' := 159) (ll' := [some (.ref (e_xb + 0)), some (.ref ax), some (.int (nI (k9))), some (.int 1), some (.int (nI (n9))), some (.int (nI a1)), x6]) (st' := [.int ((nI a1) + 1), .int (nI a1), .ref ax]) dL_law_158 rfl ?_
        rw [nI_1]
        refine w_iconst (K := K_L_law) (v := (nI 3)) dL_law_159 rfl ?_
        refine w_op (K := K_L_law) (pc' := 161) (ll' := [some (.ref (e_xb + 0)), some (.ref ax), some (.int (nI (k9))), some (.int 1), some (.int (nI (n9))), some (.int (nI a1)), x6]) (st' := [.int ((nI (a1 + 1)) - (nI (a1 + 1)) / (nI 3) * (nI 3)), .int (nI a1), .ref ax]) dL_law_160 (by rfl) ?_
        rw [z_rem (by omega) (by decide)]
        refine w_bipush (K := K_L_law) (v := (nI 12)) dL_law_161 rfl ?_
        refine w_op (K := K_L_law) (pc' := 164) (ll' := [some (.ref (e_xb + 0)), some (.ref ax), some (.int (nI (k9))), some (.int 1), some (.int (nI (n9))), some (.int (nI a1)), x6]) (st' := [.ref (e_xb + 0), .int (nI 12), .int (nI ((a1 + 1) % 3)), .int (nI a1), .ref ax]) dL_law_163 rfl ?_
        refine w_op (K := K_L_law) (pc' := 165) (ll' := [some (.ref (e_xb + 0)), some (.ref ax), some (.int (nI (k9))), some (.int 1), some (.int (nI (n9))), some (.int (nI a1)), x6]) (st' := [.int (nI (k9)), .ref (e_xb + 0), .int (nI 12), .int (nI ((a1 + 1) % 3)), .int (nI a1), .ref ax]) dL_law_164 rfl ?_
        refine w_iconst (K := K_L_law) (v := (nI 1)) dL_law_165 rfl ?_
        refine w_op (K := K_L_law) (pc' := 167) (ll' := [some (.ref (e_xb + 0)), some (.ref ax), some (.int (nI (k9))), some (.int 1), some (.int (nI (n9))), some (.int (nI a1)), x6]) (st' := [.int ((nI (k9)) + (nI 1)), .ref (e_xb + 0), .int (nI 12), .int (nI ((a1 + 1) % 3)), .int (nI a1), .ref ax]) dL_law_166 rfl ?_
        rw [nI_add]
        refine w_iconst (K := K_L_law) (v := (nI 3)) dL_law_167 rfl ?_
        refine t_callS (K := K_L_law) (As := [.ref (e_xb + 0), .int (nI (k9 + 1)), .int (nI 3)]) (rest := [.int (nI 12), .int (nI ((a1 + 1) % 3)), .int (nI a1), .ref ax]) dL_law_168 rfl rM_L_pick (by decide) rfl rfl (by decide) (Nat.le_of_ble_eq_true rfl) (c_pick (d := d + 12) hX0 h.c (by omega) (by decide) (by decide) (fun a2 ha2 => ?_))
        show s_w _ _ _ 171 _ _ _ _
        refine w_op (K := K_L_law) (pc' := 172) (ll' := [some (.ref (e_xb + 0)), some (.ref ax), some (.int (nI (k9))), some (.int 1), some (.int (nI (n9))), some (.int (nI a1)), x6]) (st' := [.int ((nI 12) * (nI a2)), .int (nI ((a1 + 1) % 3)), .int (nI a1), .ref ax]) dL_law_171 rfl ?_
        rw [v_nmul]
        refine w_bipush (K := K_L_law) (v := (nI 12)) dL_law_172 rfl ?_
        refine w_op (K := K_L_law) (pc' := 175) (ll' := [some (.ref (e_xb + 0)), some (.ref ax), some (.int (nI (k9))), some (.int 1), some (.int (nI (n9))), some (.int (nI a1)), x6]) (st' := [.int ((nI (12 * a2)) - (nI 12)), .int (nI ((a1 + 1) % 3)), .int (nI a1), .ref ax]) dL_law_174 rfl ?_
        refine w_ldcs (K := K_L_law) (i := 4) (by decide) rfl dL_law_175 ?_
        refine w_op (K := K_L_law) (pc' := 178) (ll' := [some (.ref (e_xb + 0)), some (.ref ax), some (.int (nI (k9))), some (.int 1), some (.int (nI (n9))), some (.int (nI a1)), x6]) (st' := [.ref (e_xb + 0), .ref (e_xb + (10 + 4)), .int ((nI (12 * a2)) - (nI 12)), .int (nI ((a1 + 1) % 3)), .int (nI a1), .ref ax]) dL_law_177 rfl ?_
        refine w_op (K := K_L_law) (pc' := 179) (ll' := [some (.ref (e_xb + 0)), some (.ref ax), some (.int (nI (k9))), some (.int 1), some (.int (nI (n9))), some (.int (nI a1)), x6]) (st' := [.int (nI (k9)), .ref (e_xb + 0), .ref (e_xb + (10 + 4)), .int ((nI (12 * a2)) - (nI 12)), .int (nI ((a1 + 1) % 3)), .int (nI a1), .ref ax]) dL_law_178 rfl ?_
        refine w_iconst (K := K_L_law) (v := (nI 2)) dL_law_179 rfl ?_
        refine w_op (K := K_L_law) (pc' := 181) (ll' := [some (.ref (e_xb + 0)), some (.ref ax), some (.int (nI (k9))), some (.int 1), some (.int (nI (n9))), some (.int (nI a1)), x6]) (st' := [.int ((nI (k9)) + (nI 2)), .ref (e_xb + 0), .ref (e_xb + (10 + 4)), .int ((nI (12 * a2)) - (nI 12)), .int (nI ((a1 + 1) % 3)), .int (nI a1), .ref ax]) dL_law_180 rfl ?_
        rw [nI_add]
        refine w_iconst (K := K_L_law) (v := (nI 4)) dL_law_181 rfl ?_
        refine t_callS (K := K_L_law) (As := [.ref (e_xb + 0), .int (nI (k9 + 2)), .int (nI 4)]) (rest := [.ref (e_xb + (10 + 4)), .int ((nI (12 * a2)) - (nI 12)), .int (nI ((a1 + 1) % 3)), .int (nI a1), .ref ax]) dL_law_182 rfl rM_L_pick (by decide) rfl rfl (by decide) (Nat.le_of_ble_eq_true rfl) (c_pick (d := d + 12) hX0 h.c (by omega) (by decide) (by decide) (fun a3 ha3 => ?_))
        show s_w _ _ _ 185 _ _ _ _
        refine w_callStr (K := K_L_law) (As := [.int (nI a3)]) (rest := [.int ((nI (12 * a2)) - (nI 12)), .int (nI ((a1 + 1) % 3)), .int (nI a1), .ref ax]) (by decide) dL_law_185 rfl rM_J0_charAt_5068e (by decide) rfl rfl (by decide) rfl (Nat.le_of_ble_eq_true rfl) (c_charAt (i := 4) (y := a3) (d := d + 10) (by decide) (show a3 < 4 by omega) ?_)
        show s_w _ _ _ 188 _ _ _ _
        refine t_callS (K := K_L_law) (As := [.ref ax, .int (nI a1), .int (nI ((a1 + 1) % 3)), .int ((nI (12 * a2)) - (nI 12)), .int (z_ch 4 a3)]) (rest := []) dL_law_188 rfl rM_L_coupler (by decide) rfl rfl (by decide) (Nat.le_of_ble_eq_true rfl) (g_coupler (d := d + 2) hX (by omega) h hax ha1 ⟨by omega, by omega⟩ (Nat.mod_lt _ (by decide)) (by omega) (z_sh a2 ha2) (z_c4 a3 ha3) (fun p1 c1 R1 RJ1 h1 hax1 => ?_))
        show s_w _ _ _ 191 _ _ _ _
        refine w_goto (K := K_L_law) (t := 200) dL_law_191 (by decide) ?_
        refine w_op (K := K_L_law) (pc' := 202) (ll' := [some (.ref (e_xb + 0)), some (.ref ax), some (.int (nI (k9))), some (.int 1), some (.int (nI (n9))), some (.int (nI a1)), some (.int (nI n9))]) (st' := []) dL_law_200 rfl ?_
        refine w_op (K := K_L_law) (pc' := 203) (ll' := [some (.ref (e_xb + 0)), some (.ref ax), some (.int (nI (k9))), some (.int 1), some (.int (nI (n9))), some (.int (nI a1)), some (.int (nI n9))]) (st' := [.int 1]) dL_law_202 rfl ?_
        refine w_op (K := K_L_law) (pc' := 205) (ll' := [some (.ref (e_xb + 0)), some (.ref ax), some (.int (nI (k9))), some (.int 1), some (.int (nI (n9))), some (.int (nI a1)), some (.int (nI n9))]) (st' := [.int (nI n9), .int 1]) dL_law_203 rfl ?_
        refine w_op (K := K_L_law) (pc' := 207) (ll' := [some (.ref (e_xb + 0)), some (.ref ax), some (.int (nI (k9))), some (.int 1), some (.int (nI (n9))), some (.int (nI a1)), some (.int (nI n9))]) (st' := [.int (nI (n9)), .int (nI n9), .int 1]) dL_law_205 rfl ?_
        refine w_icmpne (K := K_L_law) (t := 263) dL_law_207 (by decide) (fun c207 => ?_) (fun c207 => ?_)
        · exact absurd rfl c207
        · refine w_op (K := K_L_law) (pc' := 212) (ll' := [some (.ref (e_xb + 0)), some (.ref ax), some (.int (nI (k9))), some (.int 1), some (.int (nI (n9))), some (.int (nI a1)), some (.int (nI n9))]) (st' := [.int (nI (n9)), .int 1]) dL_law_210 rfl ?_
          refine w_iconst (K := K_L_law) (v := (nI 5)) dL_law_212 rfl ?_
          refine w_icmpgt (K := K_L_law) (t := 259) dL_law_213 (by decide) (fun c213 => ?_) (fun c213 => ?_)
          · refine w_iconst (K := K_L_law) (v := 1) dL_law_259 rfl ?_
            refine w_goto (K := K_L_law) (t := 264) dL_law_260 (by decide) ?_
            refine w_op (K := K_L_law) (pc' := 265) (ll' := [some (.ref (e_xb + 0)), some (.ref ax), some (.int (nI (k9))), some (.int 1), some (.int (nI (n9))), some (.int (nI a1)), some (.int (nI n9))]) (st' := [.int (1 &&& 1)]) dL_law_264 rfl ?_
            rw [show (1 : Int32) &&& 1 = 1 by decide]
            refine w_op (K := K_L_law) (pc' := 266) (ll' := [some (.ref (e_xb + 0)), some (.ref ax), some (.int (nI (k9))), some (.int 1), some (.int (nI (n9))), some (.int (nI a1)), some (.int (nI n9))]) (st' := []) dL_law_265 rfl ?_
            refine w_op (K := K_L_law) (pc' := 269) (ll' := [some (.ref (e_xb + 0)), some (.ref ax), some (.int ((nI (k9)) + 3)), some (.int 1), some (.int (nI (n9))), some (.int (nI a1)), some (.int (nI n9))]) (st' := []) dL_law_266 rfl ?_
            rw [show nI k9 + 3 = nI (k9 + 3) from nI_add k9 3]
            refine w_op (K := K_L_law) (pc' := 272) (ll' := [some (.ref (e_xb + 0)), some (.ref ax), some (.int (nI (k9 + 3))), some (.int 1), some (.int ((nI (n9)) + 1)), some (.int (nI a1)), some (.int (nI n9))]) (st' := []) dL_law_269 rfl ?_
            rw [show nI n9 + 1 = nI (n9 + 1) from nI_1 n9]
            refine w_goto (K := K_L_law) (t := 114) dL_law_272 (by decide) ?_
            exact k _ _ _ _ _ _ h1 hax1
          · exact absurd ((nI_ltI (a := 5) (by decide) (by omega)).mpr (by omega)) c213
    · exact absurd (nI_le (a := 6) (b := n9) (by omega) (by omega)) c133

set_option maxRecDepth 100000 in
set_option maxHeartbeats 800000 in
theorem lw_tremulant {X : e_XT} {d T ax k9 : Nat} {w : e_Rw1} {Q : e_Rt → e_SS → Prop} {p : e_Sp} {I : e_I} {J : e_Jt} {c : Nat × Nat} {x5 x6 : Option Value} {np n9 : Nat} (hX : (X 8).1 = 0) (hX0 : (X 0).1 < 2147483648) (hk : k9 + 10 < 100000) (hT : T < 80) (h : z_S T n9 3 np p I J c) (hax : p.1 T_HALL 0 = ax) (hn : 8 ≤ n9 ∧ n9 < 9) (k : ∀ p2 c2 R RJ x5 x6, z_S (T + 1) (n9 + 1) 3 np p2 R RJ c2 → p2.1 T_HALL 0 = ax → s_w X (d + 14) K_L_law 114 [some (.ref (e_xb + 0)), some (.ref ax), some (.int (nI (k9 + 3))), some (.int 1), some (.int (nI (n9 + 1))), x5, x6] [] (p2, R, RJ, c2, w) Q) : s_w X (d + 14) K_L_law 114 [some (.ref (e_xb + 0)), some (.ref ax), some (.int (nI (k9))), some (.int 1), some (.int (nI (n9))), x5, x6] [] (p, I, J, c, w) Q := by
  refine w_op (K := K_L_law) (pc' := 116) (ll' := [some (.ref (e_xb + 0)), some (.ref ax), some (.int (nI (k9))), some (.int 1), some (.int (nI (n9))), x5, x6]) (st' := [.int (nI (n9))]) dL_law_114 rfl ?_
  refine w_bipush (K := K_L_law) (v := (nI 9)) dL_law_116 rfl ?_
  refine w_icmpge (K := K_L_law) (t := 275) dL_law_118 (by decide) (fun c118 => ?_) (fun c118 => ?_)
  · exact absurd ((nI_ltI (by omega) (by decide)).mpr (by omega)) (Int32.not_lt.mpr c118)
  · refine w_op (K := K_L_law) (pc' := 122) (ll' := [some (.ref (e_xb + 0)), some (.ref ax), some (.int (nI (k9))), some (.int 1), some (.int (nI (n9))), x5, x6]) (st' := [.ref (e_xb + 0)]) dL_law_121 rfl ?_
    refine w_op (K := K_L_law) (pc' := 123) (ll' := [some (.ref (e_xb + 0)), some (.ref ax), some (.int (nI (k9))), some (.int 1), some (.int (nI (n9))), x5, x6]) (st' := [.int (nI (k9)), .ref (e_xb + 0)]) dL_law_122 rfl ?_
    refine w_iconst (K := K_L_law) (v := (nI 3)) dL_law_123 rfl ?_
    refine t_callS (K := K_L_law) (As := [.ref (e_xb + 0), .int (nI (k9)), .int (nI 3)]) (rest := []) dL_law_124 rfl rM_L_pick (by decide) rfl rfl (by decide) (Nat.le_of_ble_eq_true rfl) (c_pick (d := d + 12) hX0 h.c (by omega) (by decide) (by decide) (fun a1 ha1 => ?_))
    show s_w _ _ _ 127 _ _ _ _
    refine w_op (K := K_L_law) (pc' := 129) (ll' := [some (.ref (e_xb + 0)), some (.ref ax), some (.int (nI (k9))), some (.int 1), some (.int (nI (n9))), some (.int (nI a1)), x6]) (st' := []) dL_law_127 rfl ?_
    refine w_op (K := K_L_law) (pc' := 131) (ll' := [some (.ref (e_xb + 0)), some (.ref ax), some (.int (nI (k9))), some (.int 1), some (.int (nI (n9))), some (.int (nI a1)), x6]) (st' := [.int (nI (n9))]) dL_law_129 rfl ?_
    refine w_bipush (K := K_L_law) (v := (nI 6)) dL_law_131 rfl ?_
    refine w_icmpge (K := K_L_law) (t := 145) dL_law_133 (by decide) (fun c133 => ?_) (fun c133 => ?_)
    · refine w_op (K := K_L_law) (pc' := 147) (ll' := [some (.ref (e_xb + 0)), some (.ref ax), some (.int (nI (k9))), some (.int 1), some (.int (nI (n9))), some (.int (nI a1)), x6]) (st' := [.int (nI (n9))]) dL_law_145 rfl ?_
      refine w_bipush (K := K_L_law) (v := (nI 8)) dL_law_147 rfl ?_
      refine w_icmpge (K := K_L_law) (t := 194) dL_law_149 (by decide) (fun c149 => ?_) (fun c149 => ?_)
      · refine w_op (K := K_L_law) (pc' := 195) (ll' := [some (.ref (e_xb + 0)), some (.ref ax), some (.int (nI (k9))), some (.int 1), some (.int (nI (n9))), some (.int (nI a1)), x6]) (st' := [.ref ax]) dL_law_194 rfl ?_
        refine w_op (K := K_L_law) (pc' := 197) (ll' := [some (.ref (e_xb + 0)), some (.ref ax), some (.int (nI (k9))), some (.int 1), some (.int (nI (n9))), some (.int (nI a1)), x6]) (st' := [.int (nI a1), .ref ax]) dL_law_195 rfl ?_
        refine t_callS (K := K_L_law) (As := [.ref ax, .int (nI a1)]) (rest := []) dL_law_197 rfl rM_L_tremulant (by decide) rfl rfl (by decide) (Nat.le_of_ble_eq_true rfl) (g_tremulant (d := d + 2) hX (by omega) h hax ha1 ⟨by omega, by omega⟩ (fun p1 c1 R1 RJ1 h1 hax1 => ?_))
        show s_w _ _ _ 200 _ _ _ _
        refine w_op (K := K_L_law) (pc' := 202) (ll' := [some (.ref (e_xb + 0)), some (.ref ax), some (.int (nI (k9))), some (.int 1), some (.int (nI (n9))), some (.int (nI a1)), some (.int (nI n9))]) (st' := []) dL_law_200 rfl ?_
        refine w_op (K := K_L_law) (pc' := 203) (ll' := [some (.ref (e_xb + 0)), some (.ref ax), some (.int (nI (k9))), some (.int 1), some (.int (nI (n9))), some (.int (nI a1)), some (.int (nI n9))]) (st' := [.int 1]) dL_law_202 rfl ?_
        refine w_op (K := K_L_law) (pc' := 205) (ll' := [some (.ref (e_xb + 0)), some (.ref ax), some (.int (nI (k9))), some (.int 1), some (.int (nI (n9))), some (.int (nI a1)), some (.int (nI n9))]) (st' := [.int (nI n9), .int 1]) dL_law_203 rfl ?_
        refine w_op (K := K_L_law) (pc' := 207) (ll' := [some (.ref (e_xb + 0)), some (.ref ax), some (.int (nI (k9))), some (.int 1), some (.int (nI (n9))), some (.int (nI a1)), some (.int (nI n9))]) (st' := [.int (nI (n9)), .int (nI n9), .int 1]) dL_law_205 rfl ?_
        refine w_icmpne (K := K_L_law) (t := 263) dL_law_207 (by decide) (fun c207 => ?_) (fun c207 => ?_)
        · exact absurd rfl c207
        · refine w_op (K := K_L_law) (pc' := 212) (ll' := [some (.ref (e_xb + 0)), some (.ref ax), some (.int (nI (k9))), some (.int 1), some (.int (nI (n9))), some (.int (nI a1)), some (.int (nI n9))]) (st' := [.int (nI (n9)), .int 1]) dL_law_210 rfl ?_
          refine w_iconst (K := K_L_law) (v := (nI 5)) dL_law_212 rfl ?_
          refine w_icmpgt (K := K_L_law) (t := 259) dL_law_213 (by decide) (fun c213 => ?_) (fun c213 => ?_)
          · refine w_iconst (K := K_L_law) (v := 1) dL_law_259 rfl ?_
            refine w_goto (K := K_L_law) (t := 264) dL_law_260 (by decide) ?_
            refine w_op (K := K_L_law) (pc' := 265) (ll' := [some (.ref (e_xb + 0)), some (.ref ax), some (.int (nI (k9))), some (.int 1), some (.int (nI (n9))), some (.int (nI a1)), some (.int (nI n9))]) (st' := [.int (1 &&& 1)]) dL_law_264 rfl ?_
            rw [show (1 : Int32) &&& 1 = 1 by decide]
            refine w_op (K := K_L_law) (pc' := 266) (ll' := [some (.ref (e_xb + 0)), some (.ref ax), some (.int (nI (k9))), some (.int 1), some (.int (nI (n9))), some (.int (nI a1)), some (.int (nI n9))]) (st' := []) dL_law_265 rfl ?_
            refine w_op (K := K_L_law) (pc' := 269) (ll' := [some (.ref (e_xb + 0)), some (.ref ax), some (.int ((nI (k9)) + 3)), some (.int 1), some (.int (nI (n9))), some (.int (nI a1)), some (.int (nI n9))]) (st' := []) dL_law_266 rfl ?_
            rw [show nI k9 + 3 = nI (k9 + 3) from nI_add k9 3]
            refine w_op (K := K_L_law) (pc' := 272) (ll' := [some (.ref (e_xb + 0)), some (.ref ax), some (.int (nI (k9 + 3))), some (.int 1), some (.int ((nI (n9)) + 1)), some (.int (nI a1)), some (.int (nI n9))]) (st' := []) dL_law_269 rfl ?_
            rw [show nI n9 + 1 = nI (n9 + 1) from nI_1 n9]
            refine w_goto (K := K_L_law) (t := 114) dL_law_272 (by decide) ?_
            exact k _ _ _ _ _ _ h1 hax1
          · exact absurd ((nI_ltI (a := 5) (by decide) (by omega)).mpr (by omega)) c213
      · exact absurd (nI_le (a := 8) (b := n9) (by omega) (by omega)) c149
    · exact absurd (nI_le (a := 6) (b := n9) (by omega) (by omega)) c133

