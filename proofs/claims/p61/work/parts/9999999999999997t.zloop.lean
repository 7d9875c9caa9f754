/-! 9999999999999997t: the law's loops, the whole law (printed by wip/p61/mks.py) -/
set_option maxRecDepth 100000 in
set_option maxHeartbeats 800000 in
theorem la_1 {X : e_XT} {d T e ax k9 n9 : Nat} {w : e_Rw1} {Q : e_Rt → e_SS → Prop} {p : e_Sp} {I : e_I} {J : e_Jt} {c : Nat × Nat} {x5 x6 : Option Value} (hX0 : (X 0).1 < 2147483648) (hXX : v_X X) (hk : k9 + 4 < 100000) (hT : T + 8 ≤ 500) (he : e ≤ 300) (h : z_O T e ax (p, I, J, c, w)) (hn : n9 < 40) (k : ∀ p2 c2 A JA e2 x5 x6, e2 ≤ 300 → z_O (T + 6) e2 ax (p2, A, JA, c2, w) → s_w X (d + 14) K_L_law 278 [some (.ref (e_xb + 0)), some (.ref ax), some (.int (nI (k9 + 4))), some (.int 1), some (.int (nI (n9 + 1))), x5, x6] [] (p2, A, JA, c2, w) Q) : s_w X (d + 14) K_L_law 278 [some (.ref (e_xb + 0)), some (.ref ax), some (.int (nI (k9))), some (.int 1), some (.int (nI (n9))), x5, x6] [] (p, I, J, c, w) Q := by
  refine w_op (K := K_L_law) (pc' := 280) (ll' := [some (.ref (e_xb + 0)), some (.ref ax), some (.int (nI (k9))), some (.int 1), some (.int (nI (n9))), x5, x6]) (st' := [.int (nI (n9))]) dL_law_278 rfl ?_
  refine w_bipush (K := K_L_law) (v := (nI 40)) dL_law_280 rfl ?_
  refine w_icmpge (K := K_L_law) (t := 334) dL_law_282 (by decide) (fun c282 => ?_) (fun c282 => ?_)
  · exact absurd ((nI_ltI (by omega) (by decide)).mpr hn) (Int32.not_lt.mpr c282)
  · refine w_op (K := K_L_law) (pc' := 286) (ll' := [some (.ref (e_xb + 0)), some (.ref ax), some (.int (nI (k9))), some (.int 1), some (.int (nI (n9))), x5, x6]) (st' := [.int 1]) dL_law_285 rfl ?_
    refine w_ifeq (K := K_L_law) (t := 334) dL_law_286 (by decide) (fun c286 => ?_) (fun c286 => ?_)
    · exact absurd c286 (by decide)
    · refine w_op (K := K_L_law) (pc' := 290) (ll' := [some (.ref (e_xb + 0)), some (.ref ax), some (.int (nI (k9))), some (.int 1), some (.int (nI (n9))), x5, x6]) (st' := [.ref ax]) dL_law_289 rfl ?_
      refine w_op (K := K_L_law) (pc' := 291) (ll' := [some (.ref (e_xb + 0)), some (.ref ax), some (.int (nI (k9))), some (.int 1), some (.int (nI (n9))), x5, x6]) (st' := [.ref (e_xb + 0), .ref ax]) dL_law_290 rfl ?_
      refine w_op (K := K_L_law) (pc' := 292) (ll' := [some (.ref (e_xb + 0)), some (.ref ax), some (.int (nI (k9))), some (.int 1), some (.int (nI (n9))), x5, x6]) (st' := [.int (nI (k9)), .ref (e_xb + 0), .ref ax]) dL_law_291 rfl ?_
      refine t_callS (K := K_L_law) (As := [.ref ax, .ref (e_xb + 0), .int (nI (k9))]) (rest := []) dL_law_292 rfl rM_L_acts (by decide) rfl rfl (by decide) (Nat.le_of_ble_eq_true rfl) (c_acts (d := d) hX0 hXX (by omega) (by omega) (by omega) h (fun p1 c1 A1 JA1 h1 => ?_))
      show s_w _ _ _ 295 _ _ _ _
      refine w_ifeq (K := K_L_law) (t := 323) dL_law_295 (by decide) (fun c295 => ?_) (fun c295 => ?_)
      · exact absurd c295 (by decide)
      · refine w_op (K := K_L_law) (pc' := 299) (ll' := [some (.ref (e_xb + 0)), some (.ref ax), some (.int (nI (k9))), some (.int 1), some (.int (nI (n9))), x5, x6]) (st' := [.ref ax]) dL_law_298 rfl ?_
        refine t_callS (K := K_L_law) (As := [.ref ax]) (rest := []) dL_law_299 rfl rM_L_arePipes (by decide) rfl rfl (by decide) (Nat.le_of_ble_eq_true rfl) (c_arePipes (d := d + 1) h1 (by omega) (fun e2 c2 he2 h2 => ?_))
        show s_w _ _ _ 302 _ _ _ _
        refine w_ifeq (K := K_L_law) (t := 323) dL_law_302 (by decide) (fun c302 => ?_) (fun c302 => ?_)
        · exact absurd c302 (by decide)
        · refine w_op (K := K_L_law) (pc' := 306) (ll' := [some (.ref (e_xb + 0)), some (.ref ax), some (.int (nI (k9))), some (.int 1), some (.int (nI (n9))), x5, x6]) (st' := [.ref ax]) dL_law_305 rfl ?_
          refine t_callS (K := K_L_law) (As := [.ref ax]) (rest := []) dL_law_306 rfl rM_L_areKnobs (by decide) rfl rfl (by decide) (Nat.le_of_ble_eq_true rfl) (c_areKnobs (d := d + 1) h2 (by omega) (fun e3 c3 he3 h3 => ?_))
          show s_w _ _ _ 309 _ _ _ _
          refine w_ifeq (K := K_L_law) (t := 323) dL_law_309 (by decide) (fun c309 => ?_) (fun c309 => ?_)
          · exact absurd c309 (by decide)
          · refine w_op (K := K_L_law) (pc' := 313) (ll' := [some (.ref (e_xb + 0)), some (.ref ax), some (.int (nI (k9))), some (.int 1), some (.int (nI (n9))), x5, x6]) (st' := [.ref ax]) dL_law_312 rfl ?_
            refine l_callH (K := K_L_law) (As := []) (rest := []) dL_law_313 rfl rM_X11_isTrue (by decide) rfl rfl (by decide) rfl (Nat.le_of_ble_eq_true rfl) h3.hf (q_isTrue_ (d := d + 2) h3 ?_)
            show s_w _ _ _ 316 _ _ _ _
            rw [show s_con p1 A1 9 3 = true from by obtain ⟨np1, I1, J1, hQ1⟩ := h3.q; exact hQ1.tr]
            refine w_ifeq (K := K_L_law) (t := 323) dL_law_316 (by decide) (fun c316 => ?_) (fun c316 => ?_)
            · exact absurd c316 (by decide)
            · refine w_iconst (K := K_L_law) (v := 1) dL_law_319 rfl ?_
              refine w_goto (K := K_L_law) (t := 324) dL_law_320 (by decide) ?_
              refine w_op (K := K_L_law) (pc' := 325) (ll' := [some (.ref (e_xb + 0)), some (.ref ax), some (.int (nI (k9))), some (.int 1), some (.int (nI (n9))), x5, x6]) (st' := []) dL_law_324 rfl ?_
              refine w_op (K := K_L_law) (pc' := 328) (ll' := [some (.ref (e_xb + 0)), some (.ref ax), some (.int ((nI (k9)) + 4)), some (.int 1), some (.int (nI (n9))), x5, x6]) (st' := []) dL_law_325 rfl ?_
              rw [show nI k9 + 4 = nI (k9 + 4) from nI_add k9 4]
              refine w_op (K := K_L_law) (pc' := 331) (ll' := [some (.ref (e_xb + 0)), some (.ref ax), some (.int (nI (k9 + 4))), some (.int 1), some (.int ((nI (n9)) + 1)), x5, x6]) (st' := []) dL_law_328 rfl ?_
              rw [show nI n9 + 1 = nI (n9 + 1) from nI_1 n9]
              refine w_goto (K := K_L_law) (t := 278) dL_law_331 (by decide) ?_
              exact k _ _ _ _ _ _ _ (by omega) h3

theorem la_n {X : e_XT} {d ax : Nat} {w : e_Rw1} {Q : e_Rt → e_SS → Prop} (hX0 : (X 0).1 < 2147483648) (hXX : v_X X) : ∀ u n9 k9 T e p I J c x5 x6, n9 + u = 40 → k9 + 4 * u + 4 < 100000 → T + 6 * u + 2 ≤ 500 → e ≤ 300 → z_O T e ax (p, I, J, c, w) → (∀ p2 c2 A JA e2 k2 x5 x6, e2 ≤ 300 → z_O (T + 6 * u) e2 ax (p2, A, JA, c2, w) → s_w X (d + 14) K_L_law 278 [some (.ref (e_xb + 0)), some (.ref ax), some (.int (nI (k2))), some (.int 1), some (.int (nI (40))), x5, x6] [] (p2, A, JA, c2, w) Q) → s_w X (d + 14) K_L_law 278 [some (.ref (e_xb + 0)), some (.ref ax), some (.int (nI (k9))), some (.int 1), some (.int (nI (n9))), x5, x6] [] (p, I, J, c, w) Q := by
  intro u
  induction u with
  | zero =>
    intro n9 k9 T e p I J c x5 x6 h1 h2 h3 h4 h k
    obtain rfl : n9 = 40 := by omega
    exact k p c I J e k9 x5 x6 h4 h
  | succ u ih =>
    intro n9 k9 T e p I J c x5 x6 h1 h2 h3 h4 h k
    refine la_1 hX0 hXX (by omega) (by omega) h4 h (by omega) (fun p2 c2 A JA e2 x5 x6 he2 hO => ?_)
    refine ih (n9 + 1) (k9 + 4) (T + 6) e2 p2 A JA c2 x5 x6 (by omega) (by omega) (by omega) he2 hO (fun p3 c3 A3 JA3 e3 k3 y5 y6 he3 hO3 => ?_)
    rw [show T + 6 + 6 * u = T + 6 * (u + 1) by omega] at hO3
    exact k p3 c3 A3 JA3 e3 k3 y5 y6 he3 hO3

set_option maxRecDepth 100000 in
set_option maxHeartbeats 800000 in
theorem lt_1 {X : e_XT} {d T ax k9 n9 : Nat} {w : e_Rw1} {Q : e_Rt → e_SS → Prop} {p : e_Sp} {I : e_I} {J : e_Jt} {c : Nat × Nat} {x5 x6 : Option Value} (hT : T < 490) (h : z_Ou n9 T ax (p, I, J, c, w)) (hn : n9 < 7) (k : ∀ p2 c2 A JA x5 x6, z_Ou (n9 + 1) (T + 1) ax (p2, A, JA, c2, w) → s_w X (d + 14) K_L_law 337 [some (.ref (e_xb + 0)), some (.ref ax), some (.int (nI (k9))), some (.int 1), some (.int (nI (n9 + 1))), x5, x6] [] (p2, A, JA, c2, w) Q) : s_w X (d + 14) K_L_law 337 [some (.ref (e_xb + 0)), some (.ref ax), some (.int (nI (k9))), some (.int 1), some (.int (nI (n9))), x5, x6] [] (p, I, J, c, w) Q := by
  refine w_op (K := K_L_law) (pc' := 339) (ll' := [some (.ref (e_xb + 0)), some (.ref ax), some (.int (nI (k9))), some (.int 1), some (.int (nI (n9))), x5, x6]) (st' := [.int (nI (n9))]) dL_law_337 rfl ?_
  refine w_bipush (K := K_L_law) (v := (nI 7)) dL_law_339 rfl ?_
  refine w_icmpge (K := K_L_law) (t := 366) dL_law_341 (by decide) (fun c341 => ?_) (fun c341 => ?_)
  · exact absurd ((nI_ltI (by omega) (by decide)).mpr hn) (Int32.not_lt.mpr c341)
  · refine w_op (K := K_L_law) (pc' := 345) (ll' := [some (.ref (e_xb + 0)), some (.ref ax), some (.int (nI (k9))), some (.int 1), some (.int (nI (n9))), x5, x6]) (st' := [.int 1]) dL_law_344 rfl ?_
    refine w_op (K := K_L_law) (pc' := 346) (ll' := [some (.ref (e_xb + 0)), some (.ref ax), some (.int (nI (k9))), some (.int 1), some (.int (nI (n9))), x5, x6]) (st' := [.ref ax, .int 1]) dL_law_345 rfl ?_
    refine w_iconst (K := K_L_law) (v := 1) dL_law_346 rfl ?_
    refine t_callS (K := K_L_law) (As := [.ref ax, .int 1]) (rest := [.int 1]) dL_law_347 rfl rM_L_pass (by decide) rfl rfl (by decide) (Nat.le_of_ble_eq_true rfl) (g_passU (d := d + 2) (by omega) h (fun p1 c1 R1 RJ1 v1 hv1 h1 => ?_))
    show s_w _ _ _ 350 _ _ _ _
    refine w_ifle (K := K_L_law) (t := 357) dL_law_350 (by decide) (fun c350 => ?_) (fun c350 => ?_)
    · exact absurd c350 (Int32.not_le.mpr hv1)
    · refine w_iconst (K := K_L_law) (v := 1) dL_law_353 rfl ?_
      refine w_goto (K := K_L_law) (t := 358) dL_law_354 (by decide) ?_
      refine w_op (K := K_L_law) (pc' := 359) (ll' := [some (.ref (e_xb + 0)), some (.ref ax), some (.int (nI (k9))), some (.int 1), some (.int (nI (n9))), x5, x6]) (st' := [.int (1 &&& 1)]) dL_law_358 rfl ?_
      rw [show (1 : Int32) &&& 1 = 1 by decide]
      refine w_op (K := K_L_law) (pc' := 360) (ll' := [some (.ref (e_xb + 0)), some (.ref ax), some (.int (nI (k9))), some (.int 1), some (.int (nI (n9))), x5, x6]) (st' := []) dL_law_359 rfl ?_
      refine w_op (K := K_L_law) (pc' := 363) (ll' := [some (.ref (e_xb + 0)), some (.ref ax), some (.int (nI (k9))), some (.int 1), some (.int ((nI (n9)) + 1)), x5, x6]) (st' := []) dL_law_360 rfl ?_
      rw [show nI n9 + 1 = nI (n9 + 1) from nI_1 n9]
      refine w_goto (K := K_L_law) (t := 337) dL_law_363 (by decide) ?_
      exact k _ _ _ _ _ _ h1

theorem lt_n {X : e_XT} {d ax k9 : Nat} {w : e_Rw1} {Q : e_Rt → e_SS → Prop} : ∀ u n9 T p I J c x5 x6, n9 + u = 7 → T + u < 490 → z_Ou n9 T ax (p, I, J, c, w) → (∀ p2 c2 A JA x5 x6, z_Ou 7 (T + u) ax (p2, A, JA, c2, w) → s_w X (d + 14) K_L_law 337 [some (.ref (e_xb + 0)), some (.ref ax), some (.int (nI (k9))), some (.int 1), some (.int (nI (7))), x5, x6] [] (p2, A, JA, c2, w) Q) → s_w X (d + 14) K_L_law 337 [some (.ref (e_xb + 0)), some (.ref ax), some (.int (nI (k9))), some (.int 1), some (.int (nI (n9))), x5, x6] [] (p, I, J, c, w) Q := by
  intro u
  induction u with
  | zero =>
    intro n9 T p I J c x5 x6 h1 h2 h k
    obtain rfl : n9 = 7 := by omega
    exact k p c I J x5 x6 h
  | succ u ih =>
    intro n9 T p I J c x5 x6 h1 h2 h k
    refine lt_1 (by omega) h (by omega) (fun p2 c2 A JA x5 x6 hO => ?_)
    refine ih (n9 + 1) (T + 1) p2 A JA c2 x5 x6 (by omega) (by omega) hO (fun p3 c3 A3 JA3 y5 y6 hO3 => ?_)
    rw [show T + 1 + u = T + (u + 1) by omega] at hO3
    exact k p3 c3 A3 JA3 y5 y6 hO3

set_option maxRecDepth 100000 in
set_option maxHeartbeats 800000 in
theorem lz_1 {X : e_XT} {d T ax k9 : Nat} {w : e_Rw1} {Q : e_Rt → e_SS → Prop} {p : e_Sp} {I : e_I} {J : e_Jt} {c : Nat × Nat} {x5 x6 : Option Value} (hXX : v_X X) (hT : T ≤ 500) (h : z_Ou 7 T ax (p, I, J, c, w)) (k : ∀ c2 e2, e2 ≤ 300 → z_O T e2 ax (p, I, J, c2, w) → Q (.inl (some (.int 1))) (p, I, J, c2, w)) : s_w X (d + 14) K_L_law 337 [some (.ref (e_xb + 0)), some (.ref ax), some (.int (nI (k9))), some (.int 1), some (.int (nI (7))), x5, x6] [] (p, I, J, c, w) Q := by
  have hO := h.O
  obtain ⟨np, I', J', hQ, hop⟩ := h.opn (by decide)
  refine w_op (K := K_L_law) (pc' := 339) (ll' := [some (.ref (e_xb + 0)), some (.ref ax), some (.int (nI (k9))), some (.int 1), some (.int (nI (7))), x5, x6]) (st' := [.int (nI (7))]) dL_law_337 rfl ?_
  refine w_bipush (K := K_L_law) (v := (nI 7)) dL_law_339 rfl ?_
  refine w_icmpge (K := K_L_law) (t := 366) dL_law_341 (by decide) (fun c341 => ?_) (fun c341 => ?_)
  · refine w_op (K := K_L_law) (pc' := 367) (ll' := [some (.ref (e_xb + 0)), some (.ref ax), some (.int (nI (k9))), some (.int 1), some (.int (nI (7))), x5, x6]) (st' := [.int 1]) dL_law_366 rfl ?_
    refine w_ifeq (K := K_L_law) (t := 388) dL_law_367 (by decide) (fun c367 => ?_) (fun c367 => ?_)
    · exact absurd c367 (by decide)
    · refine w_op (K := K_L_law) (pc' := 371) (ll' := [some (.ref (e_xb + 0)), some (.ref ax), some (.int (nI (k9))), some (.int 1), some (.int (nI (7))), x5, x6]) (st' := [.ref ax]) dL_law_370 rfl ?_
      refine t_callS (K := K_L_law) (As := [.ref ax]) (rest := []) dL_law_371 rfl rM_L_areQuiet (by decide) rfl rfl (by decide) (Nat.le_of_ble_eq_true rfl) (c_areQuiet (d := d + 1) hO (by omega) hQ hop (fun e2 c2 he2 h2 => ?_))
      show s_w _ _ _ 374 _ _ _ _
      refine w_ifeq (K := K_L_law) (t := 388) dL_law_374 (by decide) (fun c374 => ?_) (fun c374 => ?_)
      · exact absurd c374 (by decide)
      · refine w_op (K := K_L_law) (pc' := 378) (ll' := [some (.ref (e_xb + 0)), some (.ref ax), some (.int (nI (k9))), some (.int 1), some (.int (nI (7))), x5, x6]) (st' := [.ref ax]) dL_law_377 rfl ?_
        refine t_callS (K := K_L_law) (As := [.ref ax]) (rest := []) dL_law_378 rfl rM_L_isThrown (by decide) rfl rfl (by decide) (Nat.le_of_ble_eq_true rfl) (c_isThrown (d := d + 1) hXX h2 (by omega) (fun e3 c3 he3 h3 => ?_))
        show s_w _ _ _ 381 _ _ _ _
        refine w_ifeq (K := K_L_law) (t := 388) dL_law_381 (by decide) (fun c381 => ?_) (fun c381 => ?_)
        · exact absurd c381 (by decide)
        · refine w_iconst (K := K_L_law) (v := 1) dL_law_384 rfl ?_
          refine w_goto (K := K_L_law) (t := 389) dL_law_385 (by decide) ?_
          refine w_ireturn (K := K_L_law) dL_law_389 ?_
          exact k _ _ (by omega) h3
  · exact absurd (Int32.le_refl _) c341

set_option maxRecDepth 100000 in
set_option maxHeartbeats 800000 in
theorem law_all {X : e_XT} {d : Nat} (hX8 : (X 8).1 = 0) (hX0 : (X 0).1 < 2147483648) (hXX : v_X X) : s_w X (d + 14) K_L_law 0 [some (.ref (e_xb + 0)), none, none, none, none, none, none] [] (l_p0, v_o, v_oJ, (0, 0), fun _ => none) (fun r S' => r = .inl (some (.int 1)) ∧ ∃ T e ax, z_O T e ax S' ∧ T ≤ 500 ∧ e ≤ 300) := by
  refine z_start (d := d) hX8 (fun ax p c h0 hax => ?_)
  refine w_iconst (K := K_L_law) (v := (nI 1)) dL_law_8 rfl ?_
  refine w_op (K := K_L_law) (pc' := 10) (ll' := [some (.ref (e_xb + 0)), some (.ref ax), some (.int (nI 1)), none, none, none, none]) (st' := []) dL_law_9 rfl ?_
  refine w_iconst (K := K_L_law) (v := 1) dL_law_10 rfl ?_
  refine w_op (K := K_L_law) (pc' := 12) (ll' := [some (.ref (e_xb + 0)), some (.ref ax), some (.int (nI 1)), some (.int 1), none, none, none]) (st' := []) dL_law_11 rfl ?_
  refine w_iconst (K := K_L_law) (v := (nI 0)) dL_law_12 rfl ?_
  refine w_op (K := K_L_law) (pc' := 15) (ll' := [some (.ref (e_xb + 0)), some (.ref ax), some (.int (nI 1)), some (.int 1), some (.int (nI 0)), none, none]) (st' := []) dL_law_13 rfl ?_
  refine lw_rank (k9 := 1) (r9 := 0) hX8 hX0 (by decide) (by decide) h0 hax (by decide) (fun np1 p1 c1 R1 J1 y5 y6 h1 hax1 => ?_)
  refine lw_rank (k9 := 1 + 3) (r9 := 0 + 1) hX8 hX0 (by decide) (by decide) h1 hax1 (by decide) (fun np2 p2 c2 R2 J2 y5 y6 h2 hax2 => ?_)
  refine lw_rank (k9 := 1 + 3 + 3) (r9 := 0 + 1 + 1) hX8 hX0 (by decide) (by decide) h2 hax2 (by decide) (fun np3 p3 c3 R3 J3 y5 y6 h3 hax3 => ?_)
  refine w_op (K := K_L_law) (pc' := 17) (ll' := [some (.ref (e_xb + 0)), some (.ref ax), some (.int (nI (1 + 3 + 3 + 3))), some (.int 1), some (.int (nI (0 + 1 + 1 + 1))), y5, y6]) (st' := [.int (nI (0 + 1 + 1 + 1))]) dL_law_15 rfl ?_
  refine w_iconst (K := K_L_law) (v := (nI 3)) dL_law_17 rfl ?_
  refine w_icmpge (K := K_L_law) (t := 111) dL_law_18 (by decide) (fun c18 => ?_) (fun c18 => ?_)
  · refine w_iconst (K := K_L_law) (v := (nI 3)) dL_law_111 rfl ?_
    refine w_op (K := K_L_law) (pc' := 114) (ll' := [some (.ref (e_xb + 0)), some (.ref ax), some (.int (nI (1 + 3 + 3 + 3))), some (.int 1), some (.int (nI 3)), y5, y6]) (st' := []) dL_law_112 rfl ?_
    refine lw_stop (n9 := 3) hX8 hX0 (by decide) (by decide) h3 hax3 (by decide) (fun p4 c4 R4 J4 y5 y6 h4 hax4 => ?_)
    refine lw_stop (n9 := 3 + 1) hX8 hX0 (by decide) (by decide) h4 hax4 (by decide) (fun p5 c5 R5 J5 y5 y6 h5 hax5 => ?_)
    refine lw_stop (n9 := 3 + 1 + 1) hX8 hX0 (by decide) (by decide) h5 hax5 (by decide) (fun p6 c6 R6 J6 y5 y6 h6 hax6 => ?_)
    refine lw_coupler (n9 := 3 + 1 + 1 + 1) hX8 hX0 (by decide) (by decide) h6 hax6 (by decide) (fun p7 c7 R7 J7 y5 y6 h7 hax7 => ?_)
    refine lw_coupler (n9 := 3 + 1 + 1 + 1 + 1) hX8 hX0 (by decide) (by decide) h7 hax7 (by decide) (fun p8 c8 R8 J8 y5 y6 h8 hax8 => ?_)
    refine lw_tremulant (n9 := 3 + 1 + 1 + 1 + 1 + 1) hX8 hX0 (by decide) (by decide) h8 hax8 (by decide) (fun p9 c9 R9 J9 y5 y6 h9 hax9 => ?_)
    refine w_op (K := K_L_law) (pc' := 116) (ll' := [some (.ref (e_xb + 0)), some (.ref ax), some (.int (nI (1 + 3 + 3 + 3 + 3 + 3 + 3 + 3 + 3 + 3))), some (.int 1), some (.int (nI (3 + 1 + 1 + 1 + 1 + 1 + 1))), y5, y6]) (st' := [.int (nI (3 + 1 + 1 + 1 + 1 + 1 + 1))]) dL_law_114 rfl ?_
    refine w_bipush (K := K_L_law) (v := (nI 9)) dL_law_116 rfl ?_
    refine w_icmpge (K := K_L_law) (t := 275) dL_law_118 (by decide) (fun c118 => ?_) (fun c118 => ?_)
    · refine w_iconst (K := K_L_law) (v := (nI 0)) dL_law_275 rfl ?_
      refine w_op (K := K_L_law) (pc' := 278) (ll' := [some (.ref (e_xb + 0)), some (.ref ax), some (.int (nI (1 + 3 + 3 + 3 + 3 + 3 + 3 + 3 + 3 + 3))), some (.int 1), some (.int (nI 0)), y5, y6]) (st' := []) dL_law_276 rfl ?_
      have hO := z_S.O (w := fun _ => none) h9 hax9
      refine la_n hX0 hXX 40 0 _ _ 0 p9 R9 J9 c9 y5 y6 (by decide) (by decide) (by decide) (by decide) hO (fun pa ca Aa Ja ea ka y5 y6 hea ha => ?_)
      refine w_op (K := K_L_law) (pc' := 280) (ll' := [some (.ref (e_xb + 0)), some (.ref ax), some (.int (nI (ka))), some (.int 1), some (.int (nI (40))), y5, y6]) (st' := [.int (nI (40))]) dL_law_278 rfl ?_
      refine w_bipush (K := K_L_law) (v := (nI 40)) dL_law_280 rfl ?_
      refine w_icmpge (K := K_L_law) (t := 334) dL_law_282 (by decide) (fun c282 => ?_) (fun c282 => ?_)
      · refine w_iconst (K := K_L_law) (v := (nI 0)) dL_law_334 rfl ?_
        refine w_op (K := K_L_law) (pc' := 337) (ll' := [some (.ref (e_xb + 0)), some (.ref ax), some (.int (nI (ka))), some (.int 1), some (.int (nI 0)), y5, y6]) (st' := []) dL_law_335 rfl ?_
        refine lt_n 7 0 _ pa Aa Ja ca y5 y6 (by decide) (by decide) (ha.ou (by omega) (by decide)) (fun pb cb Ab Jb y5 y6 hb => ?_)
        exact lz_1 hXX (by decide) hb (fun c2 e2 he2 h2 => ⟨rfl, _, _, _, h2, by decide, he2⟩)
      · exact absurd (Int32.le_refl _) c282
    · exact absurd (Int32.le_refl _) c118
  · exact absurd (Int32.le_refl _) c18

