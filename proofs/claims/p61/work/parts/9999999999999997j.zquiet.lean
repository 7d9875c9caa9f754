/-! 9999999999999997j: behind ticks without acts pallets stand by reasons alone -/
theorem z_quiet3 {nk nr np : Nat} {I : e_I} (h1 : ∀ r, r < 16 → I f_m_operation r = 45 ∨ I f_m_isRelay r = bI (q_rv I nk r)) (h2 : ∀ q, q < np → I f_m_counts q = v_C I nk nr q) (h3 : ∀ q, q < np → I f_m_isCalled q = q_is I q ∧ I f_m_isWanted q = v_sw I q) : s_run q_stA 0 np (q_rc nk nr np I) = q_rc nk nr np I ∧ s_eqN [f_m_counts] I (q_rc nk nr np I) := by
  have e1 : q_rel nk I = I := v_runid 16 0 (fun r hr => by
    rw [Nat.zero_add]
    unfold q_rl
    by_cases c : I f_m_operation r = 45
    · rw [if_pos c]
    · rw [if_neg c]
      exact v_upid ((h1 r hr).resolve_left c))
  have hE : s_eqN [f_m_counts] I (q_rc nk nr np I) := by
    have h2 : s_eqN [f_m_counts] (q_rel nk I) (q_rc nk nr np I) := (s_eqN.fill (by decide)).trans (s_eqN.run s_eqN.qrcD _ _ _)
    rw [e1] at h2
    exact h2
  have hC : ∀ q, q < np → q_rc nk nr np I f_m_counts q = I f_m_counts q := fun q hq => by rw [v_rcC0 hq, e1, h2 q hq]
  generalize q_rc nk nr np I = M at *
  refine ⟨v_runid np 0 (fun q hq => ?_), hE⟩
  rw [Nat.zero_add]
  have a1 : q_is M q = M f_m_isCalled q := by
    rw [hE f_m_isCalled (by decide), (h3 q hq).1]
    unfold q_is
    rw [hC q hq]
  have a2 : v_sw M q = M f_m_isWanted q := by
    rw [hE f_m_isWanted (by decide), (h3 q hq).2]
    unfold v_sw q_is
    rw [hC q hq, hE f_m_isHeld (by decide)]
  have ek : q_stK q M = M := by
    unfold q_stK
    exact if_neg (fun z => z.1 a1)
  unfold q_stA
  rw [ek]
  unfold q_stB q_stV
  rw [v_upid a1.symm]
  have a3 : bI (decide (q_is M q ≠ 0) || decide (M f_m_isHeld q ≠ 0)) = M f_m_isWanted q := a2
  rw [a3, if_pos rfl]
  exact v_upid rfl
theorem z_mvC {M : e_I} {q : Nat} (h : ¬ M f_m_isWanted q = 0) : ∀ n, s_run q_mv 0 n M f_m_closedSince q = M f_m_closedSince q := by
  intro n
  induction n with
  | zero => rfl
  | succ n ih =>
    rw [s_run_l, Nat.zero_add]
    have hw : s_run q_mv 0 n M f_m_isWanted q = M f_m_isWanted q := by rw [s_eqN.run s_eqN.qmv n 0 M f_m_isWanted (by decide)]
    generalize s_run q_mv 0 n M = A at *
    unfold q_mv
    split
    · rw [s_up_F (by decide)]; exact ih
    · split
      · rename_i c
        by_cases e : q = n
        · exact absurd (by rw [← e] at c; exact hw.symm.trans c.1) h
        · rw [s_up_i e, s_up_F (by decide)]; exact ih
      · exact ih
theorem z_still {nk nr np m i : Nat} {b : e_I × e_Jt} (hF : v_Fix nk nr np b.1) (htk : b.1 f_m_tick 0 = nI m) (hq : v_Kw m b.1) (hm : m + 1 < 1000000000) : (q_tc nk nr np i b).1 f_m_wentDown = b.1 f_m_wentDown ∧ ∀ q, q < np → (q_tc nk nr np i b).1 f_m_isWanted q = b.1 f_m_isWanted q ∧ (q_tc nk nr np i b).1 f_m_since q = b.1 f_m_since q ∧ (¬ b.1 f_m_isWanted q = 0 → (q_tc nk nr np i b).1 f_m_closedSince q = b.1 f_m_closedSince q) := by
  obtain ⟨x1, x2, x3, -, -, -⟩ := hF
  have e' : s_eqN [f_m_tick] b.1 (s_up b.1 f_m_tick 0 (b.1 f_m_tick 0 + 1)) := s_eqN.up (by decide)
  have et : s_up b.1 f_m_tick 0 (b.1 f_m_tick 0 + 1) f_m_tick 0 = nI (m + 1) := by rw [s_up_s, htk, nI_1]
  obtain ⟨key, hE⟩ := z_quiet3 (nk := nk) (nr := nr) (np := np) (I := s_up b.1 f_m_tick 0 (b.1 f_m_tick 0 + 1)) (fun r hr => by
    rw [v_rv.N (nr := nr) (np := np) e' (by decide), e' f_m_operation (by decide), e' f_m_isRelay (by decide)]
    exact x1 r hr) (fun q hq9 => by
    rw [v_Ctk (m := m) e' (fun i hi hd => by
      obtain ⟨w, w1, w2⟩ := hq i hi
      rw [w2, et, htk]
      refine ⟨fun z => ?_, fun z => ?_⟩
      · have : w = m := (nI_eq (by omega) (by omega)).mp z
        omega
      · have : w = m + 1 := (nI_eq (by omega) (by omega)).mp z
        omega), e' f_m_counts (by decide)]
    exact x2 q hq9) (fun q hq9 => by
    have a1 : q_is (s_up b.1 f_m_tick 0 (b.1 f_m_tick 0 + 1)) q = q_is b.1 q := by unfold q_is; rw [e' f_m_counts (by decide)]
    have a2 : v_sw (s_up b.1 f_m_tick 0 (b.1 f_m_tick 0 + 1)) q = v_sw b.1 q := by unfold v_sw; rw [a1, e' f_m_isHeld (by decide)]
    rw [a1, a2, e' f_m_isCalled (by decide), e' f_m_isWanted (by decide)]
    exact x3 q hq9)
  have e0 : (q_tc nk nr np i b).1 = (s_run q_sp 0 np (q_bws nk np (s_run q_mv 0 np (s_run q_stA 0 np (q_rc nk nr np (s_up b.1 f_m_tick 0 (b.1 f_m_tick 0 + 1))))), b.2)).1 := rfl
  rw [e0, key]
  generalize s_up b.1 f_m_tick 0 (b.1 f_m_tick 0 + 1) = I1 at *
  generalize q_rc nk nr np I1 = M at *
  have k1 : s_eqN [f_m_isOpen, f_m_closedSince] M (s_run q_mv 0 np M) := s_eqN.run s_eqN.qmv _ _ _
  have k0 : ∀ q, ¬ M f_m_isWanted q = 0 → s_run q_mv 0 np M f_m_closedSince q = M f_m_closedSince q := fun q h => z_mvC h np
  generalize s_run q_mv 0 np M = A at *
  have k2 : s_eqN [f_m_winds] A (q_bws nk np A) := s_eqN.qbws
  generalize q_bws nk np A = B at *
  have k3 : s_eqN [f_m_begun, f_m_speaks] B (s_run q_sp 0 np (B, b.2)).1 := s_eqN.runP s_eqN.qsp _ _ (B, b.2)
  generalize (s_run q_sp 0 np (B, b.2)).1 = C at *
  refine ⟨?_, fun q hq9 => ⟨?_, ?_, fun hw => ?_⟩⟩
  · rw [k3 _ (by decide), k2 _ (by decide), k1 _ (by decide), hE _ (by decide), e' _ (by decide)]
  · rw [k3 _ (by decide), k2 _ (by decide), k1 _ (by decide), hE _ (by decide), e' _ (by decide)]
  · rw [k3 _ (by decide), k2 _ (by decide), k1 _ (by decide), hE _ (by decide), e' _ (by decide)]
  · rw [k3 _ (by decide), k2 _ (by decide), k0 q (by rw [hE _ (by decide), e' _ (by decide)]; exact hw), hE _ (by decide), e' _ (by decide)]
/-- u ticks were told without an act -/
def z_St (u np m : Nat) (I' : e_I) : Prop := u = 0 ∨ (v_Kw m I' ∧ ∀ q, q < np → z_ag (u - 1) m (I' f_m_since q) ∧ (¬ I' f_m_isWanted q = 0 → z_ag (u - 1) m (I' f_m_closedSince q)))
/-- as z_O, and u ticks were told without an act -/
def z_Ou (u T ax : Nat) (S : e_SS) : Prop := ∃ np n t s m I' J', (s_D S.1 S.2.1 9 3 ∧ v_Wd 9 S.2.1 ∧ (∃ a b, s_Tp S.1 S.2.1 S.2.2.2.1 a b ∧ a ≤ 1000 + 400 * T ∧ b ≤ 40000 + 2500 * T) ∧ (T ≤ 500 ∧ np ≤ 42 * 3) ∧ v_Sim S.1 9 3 np n t s m T (S.2.1, S.2.2.1) (I', J') ∧ (∃ K, K ≤ 600000 * T ∧ z_GI K np (I', J')) ∧ n ≤ 600 * T ∧ m ≤ 100040 * T) ∧ (z_F S.1 S.2.1 ∧ z_V S.1 S.2.1 ∧ S.1.1 T_HALL 0 = ax) ∧ z_St u np m I'
theorem z_Ou.O {u T ax : Nat} {S : e_SS} (h : z_Ou u T ax S) : z_O T 0 ax S := by
  obtain ⟨np, n, t, s, m, I', J', ⟨hD, hW, ⟨a, b, hTp, ha, hb⟩, hnp, hS, hR, hn, hm⟩, h3, -⟩ := h
  exact ⟨⟨np, hD, hW, ⟨a, b, hTp, by omega, by omega⟩, ⟨hnp.1, hnp.2, Nat.le_refl 3⟩, n, t, s, m, I', J', hS, hR, hn, hm⟩, h3⟩
theorem z_O.ou {T e ax : Nat} {S : e_SS} (h : z_O T e ax S) (he : e ≤ 400) (hT : T < 500) : z_Ou 0 (T + 1) ax S := by
  obtain ⟨⟨np, hD, hW, ⟨a, b, hTp, ha, hb⟩, hnp, n, t, s, m, I', J', hS, ⟨K, hK, hR⟩, hn, hm⟩, h3⟩ := h
  exact ⟨np, n, t, s, m, I', J', ⟨hD, hW, ⟨a, b, hTp, by omega, by omega⟩, ⟨by omega, hnp.2.1⟩, hS.L (by omega), ⟨K, by omega, hR⟩, by omega, by omega⟩, h3, .inl rfl⟩
set_option maxRecDepth 100000 in
set_option maxHeartbeats 400000 in
/-- a tick -/
theorem g_passU {X : e_XT} {d u T ax : Nat} {p : e_Sp} {I : e_I} {J : e_Jt} {c : Nat × Nat} {w : e_Rw1} {Q : e_Rt → e_SS → Prop} (hT : T < 500) (h : z_Ou u T ax (p, I, J, c, w)) (k : ∀ p' c' R RJ x, 0 < x → z_Ou (u + 1) (T + 1) ax (p', R, RJ, c', w) → Q (.inl (some (.int x))) (p', R, RJ, c', w)) : s_c X (d + 11) 404 [.ref ax, .int 1] (p, I, J, c, w) Q := by
  obtain ⟨np, n, t, s, m, I', J', ⟨hD, hW, ⟨a, b, hTp, ha, hb⟩, hnp, hS, ⟨K, hK, hR⟩, hn, hm⟩, ⟨hF, hV, hax⟩, hu⟩ := h
  dsimp only at hD hW hTp hS hF hV hax
  rw [← hax]
  refine c_L_pass (d := d + 10) hD.1.1 (c_X11_pass (d := d + 2) (y := nI 1) hD hTp (fun _ p1 c1 hD1 x1 hT1 => ?_) (fun z => absurd (by decide) z))
  rw [nI_clamp (show 1 < 2 ^ 31 by decide)] at hD1 hT1 ⊢
  obtain ⟨⟨n', t', hn', -, hS1⟩, -⟩ := a_pass (k := 1) hS (by omega) (by omega) (by omega) (by omega)
  have hm9 := hS1.1.1.2.2.1.2.1.1
  have hnow : (s_run (s_tick p 9 3) 0 1 (I, J)).1 f_now 0 = nI (m + 1) := (hS1.1.1.1.2.2.2.2.1).trans hm9.2.2.2.1
  have eC : s_eqN (f_now :: s_tST) I (s_run (s_tick p 9 3) 0 1 (I, J)).1 := s_eqN.runP s_eqN.tick 1 0 (I, J)
  have hG : z_GI (K + 2 * 1) np (s_run (q_tc 9 3 np) 0 1 (I', J')) := hR.tcs (k := 1)
  have htk := hS.1.1.2.2.1.2.1.1.2.2.2.1
  have hKt := hS.1.2.2.2
  have hst := fun hq => z_still (i := 0) (np := np) hS.1.2.2.1 htk hq (by omega)
  have hW1 := v_Wd.ticks (p := p) (nr := 3) (a := (I, J)) hW 1 0
  generalize hB : s_run (q_tc 9 3 np) 0 1 (I', J') = B at *
  have hB2 : q_tc 9 3 np 0 (I', J') = B := hB
  rw [hB2] at hst
  generalize s_run (s_tick p 9 3) 0 1 (I, J) = A at *
  refine k p1 c1 A.1 A.2 _ ?_ ⟨np, n', t', s, m + 1, B.1, B.2, ⟨hD1, hW1, ⟨_, _, hT1, by omega, by omega⟩, ⟨by omega, hnp.2⟩, hS1.p x1.2.2.1 x1.PARR, ⟨K + 2 * 1, by omega, hG⟩, by omega, by omega⟩, ⟨hF.N x1.PARR eC (by decide), (hV.N eC (by decide)).p x1.PARR x1.2.2.1, x1.HALL.trans hax⟩, .inr ?_⟩
  · rw [hnow]
    exact (nI_ltI (a := 0) (by omega) (by omega)).mpr (by omega)
  · obtain ⟨f, g, hE⟩ := hG.2
    obtain ⟨m2, h1, h2, h3⟩ := hE.2.2.2
    have em : m2 = m + 1 := (nI_eq (by omega) (by omega)).mp (h2.symm.trans hm9.2.2.2.1)
    subst em
    rcases hu with hu | ⟨hu1, hu2⟩
    · subst hu
      refine ⟨fun i hi => ?_, fun q hq => ⟨(h3 q hq).1, fun _ => (h3 q hq).2⟩⟩
      obtain ⟨w9, w1, w2, -⟩ := hKt i hi
      have e9 : B.1 f_m_wentDown = I' f_m_wentDown := by
        rw [← hB]
        exact h_tcsE.1 _ (by decide)
      rw [e9]
      exact ⟨w9, by omega, w2⟩
    · obtain ⟨s1, s2⟩ := hst hu1
      refine ⟨fun i hi => ?_, fun q hq => ?_⟩
      · rw [s1]
        obtain ⟨w9, w1, w2⟩ := hu1 i hi
        exact ⟨w9, by omega, w2⟩
      · obtain ⟨b1, b2, b3⟩ := s2 q hq
        obtain ⟨u1, u2⟩ := hu2 q hq
        rw [b1, b2]
        refine ⟨?_, fun hw => ?_⟩
        · by_cases z : u = 0
          · subst z
            exact u1.up.mono (by omega)
          · have := u1.up
            rwa [show u - 1 + 1 = u + 1 - 1 by omega] at this
        · have hw2 : ¬ I' f_m_isWanted q = 0 := hw
          rw [b3 hw]
          by_cases z : u = 0
          · subst z
            exact (u2 hw2).up.mono (by omega)
          · have := (u2 hw2).up
            rwa [show u - 1 + 1 = u + 1 - 1 by omega] at this
/-- pallets stand by reasons alone -/
theorem z_Ou.opn {u T ax : Nat} {p : e_Sp} {I : e_I} {J : e_Jt} {c : Nat × Nat} {w : e_Rw1} (hu : 4 ≤ u) (h : z_Ou u T ax (p, I, J, c, w)) : ∃ np I' J', z_Q p I J np I' J' ∧ ∀ q, q < np → I f_p_isOpened q = (if 0 < s_ar I q then 1 else 0) := by
  have hO := h.O.q
  obtain ⟨np0, I0', J0', hQ0⟩ := hO
  obtain ⟨np, n, t, s, m, I', J', ⟨hD, hW, -, hnp, hS, ⟨K, hK, hR⟩, hn, hm⟩, ⟨hF, hV, hax⟩, hz⟩ := h
  dsimp only at hD hW hS hF hV hax
  have hnp0 : 0 < np := by
    have h0 := hS.1.1.1.1
    obtain ⟨lo, dv, c1, -⟩ := h0.2.2 2 (by decide)
    have h1 : np = (if 3 = 0 then 0 else p.2.2.2.2 (3 - 1) + p.2.2.1 T_PARR (3 - 1)) := h0.1.2.2
    rw [if_neg (by decide)] at h1
    have h2 : np = p.2.2.2.2 2 + p.2.2.1 T_PARR 2 := h1
    omega
  have hQ : z_Q p I J np I' J' := ⟨⟨n, t, s, m, T, hS, by omega⟩, ⟨K, by omega, hR⟩, hW, hF, hV, hnp0, by omega⟩
  refine ⟨np, I', J', hQ, fun q hq => ?_⟩
  obtain ⟨-, z2⟩ := hz.resolve_left (by omega)
  obtain ⟨z3, z4⟩ := z2 q hq
  obtain ⟨k, hk, e1, e2⟩ := hQ.rs hq
  have hP := hS.1.1.2.2.1.1 q hq
  have hFx := hS.1.2.2.1
  have htk : I' f_m_tick 0 = nI m := hS.1.1.2.2.1.2.1.1.2.2.2.1
  have hsw := (hFx.2.2.1 q hq).2
  obtain ⟨n1, n2⟩ := hFx.2.2.2.1 q hq
  have hh : I' f_m_isHeld q = 0 := hS.2.1.2.1 q hq
  obtain ⟨r, j, hr, hj, ej, erk⟩ := hS.1.1.1.1.ex hq
  obtain ⟨lo, dv, c1, c2, hdv, a3, a4, a5, a6, a7, a8, ⟨-, a9, a10, -⟩, -⟩ := hS.1.1.1.1.2.2 r hr
  obtain ⟨lo2, dl, rs, pw, h1, h2, h3, h4, h5, h6, h7, -⟩ := hF.1 r hr
  dsimp only at a9 a10 hsw hP
  have dle : I' f_mr_delay (q_rk I' q) ≤ I' f_m_tick 0 - I' f_m_since q := by
    rw [erk, ← a9, h2, htk]
    exact z3.ge (by omega) (by omega)
  have hw : I' f_m_isWanted q = (if 0 < s_ar I q then 1 else 0) := by
    rw [hsw, e1]
    unfold v_sw q_is
    rw [hh, e2]
    by_cases z : 0 < nI k
    · rw [decide_eq_true z, if_pos z]; rfl
    · rw [decide_eq_false z, if_neg z]; rfl
  rw [← hw, hP.2.2.2.1.1]
  rcases hP.2.2.2.1.2 with o | o
  · rw [o]
    apply Decidable.byContradiction
    intro y
    have y2 : ¬ I' f_m_isWanted q = 0 := fun y3 => y y3.symm
    refine n1 ⟨y2, o, dle, ?_⟩
    show I' f_mr_rest (q_rk I' q) ≤ I' f_m_tick 0 - I' f_m_closedSince q
    rw [erk, ← a10, h3, htk]
    exact (z4 y2).ge (by omega) (by omega)
  · rw [o]
    apply Decidable.byContradiction
    intro y
    have y2 : I' f_m_isWanted q = 0 := by
      rw [hw] at y ⊢
      by_cases z : 0 < s_ar I q
      · rw [if_pos z] at y; exact absurd rfl y
      · rw [if_neg z]
    exact n2 ⟨y2, (by show ¬ I' f_m_isOpen q = 0; rw [o]; decide), dle⟩
