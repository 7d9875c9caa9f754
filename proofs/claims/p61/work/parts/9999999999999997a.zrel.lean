/-! 9999999999999997a: what stands between the law's calls (a ghost beside the class: the reference's numbers, which no heap holds) -/
theorem v_Rg.st {nk nr np : Nat} {I : e_I} {J : e_Jt} (h : v_Rg nr np I) : v_Rg nr np (q_st nk nr np (I, J)).1 := h.N (q_st_e (nk := nk) (nr := nr) (np := np) (a := (I, J))).1 (by decide)
theorem v_Rg.tcs {nk nr np k i : Nat} {a : e_I × e_Jt} (h : v_Rg nr np a.1) : v_Rg nr np (s_run (q_tc nk nr np) i k a).1 := h.N h_tcsE.1 (by decide)
theorem z_in {z : Int32} (h : -50 ≤ z ∧ z ≤ 50) : v_in z (-50) 50 := ⟨Int32.le_iff_toInt_le.mp h.1, Int32.le_iff_toInt_le.mp h.2⟩
theorem v_Rg.tun {nr np j : Nat} {I : e_I} {z : Int32} (h : v_Rg nr np I) (hz : v_in z (-50) 50) : v_Rg nr np (s_up I f_m_tuning j z) := ⟨fun q hq => by
  by_cases e : q = j
  · rw [e, s_up_s]; exact hz
  · rw [s_up_i e]; exact h.1 q hq, h.2.1, h.2.2.1, h.2.2.2.1, h.2.2.2.2⟩
theorem v_Rg.sup {nr np j y : Nat} {I : e_I} (h : v_Rg nr np I) (hy : y ≤ 999) : v_Rg nr np (s_up I f_m_supply j (nI y)) := by
  obtain ⟨h1, h2, h3, h4, h5⟩ := h
  refine ⟨fun q hq => ?_, fun i hi => ?_, ?_, fun r hr => ⟨?_, ?_⟩, fun d hd => ?_⟩
  · rw [s_up_F (by decide)]; exact h1 q hq
  · rw [s_up_F (by decide)]; exact h2 i hi
  · rw [s_up_F (by decide)]; exact h3
  · rw [s_up_F (by decide)]; exact (h4 r hr).1
  · rw [s_up_F (by decide)]; exact (h4 r hr).2
  · by_cases e : d = j
    · rw [e, s_up_s]; exact v_in.mono (v_in.nI (by omega)) (by omega) (by omega)
    · rw [s_up_i e]; exact h5 d hd
/-- what the ghost keeps: ranges, and how often pipes have begun and ended -/
def z_GI (K np : Nat) (B : e_I × e_Jt) : Prop := v_Rg 3 np B.1 ∧ z_E K np B
theorem z_GI.NJ {K np : Nat} {T : List Nat} {I' B : e_I} {J' J2 : e_Jt} (h : z_GI K np (I', J')) (e : s_eqN T I' B) (hT : v_dj (f_m_begun :: f_m_speaks :: f_m_tick :: f_m_since :: f_m_closedSince :: v_RgM) T = true) (h1 : J2 j_m_ended = J' j_m_ended) (h2 : J2 j_m_allBegun = J' j_m_allBegun) : z_GI K np (B, J2) := by
  have h3 := (z_T.N (a := (I', J')) (b := (B, J2)) (np := np) e (h_sub hT (by decide)) h1 h2).E h.2
  rw [Nat.add_zero] at h3
  exact ⟨h.1.N e (h_sub hT (by decide)), h3⟩
theorem z_GI.N {K np : Nat} {T : List Nat} {I' B : e_I} {J' : e_Jt} (h : z_GI K np (I', J')) (e : s_eqN T I' B) (hT : v_dj (f_m_begun :: f_m_speaks :: f_m_tick :: f_m_since :: f_m_closedSince :: v_RgM) T = true) : z_GI K np (B, J') := h.NJ e hT rfl rfl
theorem z_GI.st {K np : Nat} {I' : e_I} {J' : e_Jt} (h : z_GI K np (I', J')) : z_GI (K + 1) np (q_st 9 3 np (I', J')) := ⟨h.1.st, z_T.st.E h.2⟩
theorem z_GI.tcs {K np k : Nat} {a : e_I × e_Jt} (h : z_GI K np a) : z_GI (K + 2 * k) np (s_run (q_tc 9 3 np) 0 k a) := ⟨h.1.tcs, (z_T.tcs k 0 a).E h.2⟩
theorem z_GI.tun {K np j : Nat} {z : Int32} {I' : e_I} {J' : e_Jt} (h : z_GI K np (I', J')) (hz : v_in z (-50) 50) : z_GI K np (s_up I' f_m_tuning j z, J') := by
  have h3 := (z_T.N (a := (I', J')) (b := (s_up I' f_m_tuning j z, J')) (np := np) (T := [f_m_tuning]) (s_eqN.up (by decide)) (by decide) rfl rfl).E h.2
  rw [Nat.add_zero] at h3
  exact ⟨h.1.tun hz, h3⟩
theorem z_GI.sup {K np j y : Nat} {I' : e_I} {J' : e_Jt} (h : z_GI K np (I', J')) (hy : y ≤ 999) : z_GI K np (s_up I' f_m_supply j (nI y), J') := by
  have h3 := (z_T.N (a := (I', J')) (b := (s_up I' f_m_supply j (nI y), J')) (np := np) (T := [f_m_supply]) (s_eqN.up (by decide)) (by decide) rfl rfl).E h.2
  rw [Nat.add_zero] at h3
  exact ⟨h.1.sup hy, h3⟩
/-- room, the class, the ghost -/
def z_H (T e nk nr np : Nat) (p : e_Sp) (I : e_I) (J : e_Jt) (c : Nat × Nat) : Prop :=
  s_D p I nk nr ∧ v_Wd nk I ∧ (∃ a b, s_Tp p I c a b ∧ a ≤ 1000 + 400 * T + e ∧ b ≤ 40000 + 2500 * T + 6 * e) ∧ (T ≤ 500 ∧ np ≤ 42 * nr ∧ nr ≤ 3) ∧ ∃ n t s m I' J', v_Sim p nk nr np n t s m T (I, J) (I', J') ∧ (∃ K, K ≤ 600000 * T ∧ z_GI K np (I', J')) ∧ n ≤ 600 * T ∧ m ≤ 100040 * T
/-- what the law makes and never changes -/
def z_Fl : List Nat := [f_r_lowest, f_r_delay, f_r_rest, f_r_power, f_k_kind, f_a_owners, f_a_openings, f_a_temperings, f_heat]
def z_F (p : e_Sp) (I : e_I) : Prop :=
  (∀ r, r < 3 → ∃ lo dl rs pw, I f_r_lowest r = nI lo ∧ I f_r_delay r = nI dl ∧ I f_r_rest r = nI rs ∧ I f_r_power r = nI pw ∧ (36 ≤ lo ∧ lo ≤ 44 ∧ 49 ≤ lo + p.2.2.1 T_PARR r ∧ lo + p.2.2.1 T_PARR r ≤ 78) ∧ dl ≤ 2 ∧ rs ≤ 2 ∧ pw ≤ 90) ∧
  (∀ k, k < 9 → (I f_k_kind k = 115 ↔ 3 ≤ k ∧ k < 6)) ∧ (∀ v, v < 4 → I f_a_owners v = -1) ∧ (∀ d, d < 3 → ∃ o, o ≤ 10 ∧ I f_a_openings d = nI o) ∧ (∀ i, i < 12 → I f_a_temperings i = 0) ∧ I f_heat 0 = 0
/-- what calls change -/
def z_Vl : List Nat := [f_p_fault, f_crescendo, f_s_stage]
def z_V (p : e_Sp) (I : e_I) : Prop := (∀ r, r < 3 → ∀ i, i < p.2.2.1 T_PARR r → I f_p_fault (p.2.2.2.2 r + i) = 45 ∨ I f_p_fault (p.2.2.2.2 r + i) = 99 ∨ I f_p_fault (p.2.2.2.2 r + i) = 100) ∧ (∃ c, c ≤ 9 ∧ I f_crescendo 0 = nI c) ∧ ∀ k, k < 9 → ∃ s, s ≤ 9 ∧ I f_s_stage k = nI s
theorem z_F.N {p p' : e_Sp} {I I' : e_I} {T : List Nat} (h : z_F p I) (hx : p'.2.2.1 T_PARR = p.2.2.1 T_PARR) (e : s_eqN T I I') (hT : v_dj z_Fl T = true) : z_F p' I' := by
  obtain ⟨h1, h2, h3, h4, h6, h7⟩ := h
  refine ⟨fun r hr => ?_, fun k hk => ?_, fun v hv => ?_, fun d hd => ?_, fun i hi => ?_, ?_⟩
  · rw [e f_r_lowest (v_dj.o hT (by decide)), e f_r_delay (v_dj.o hT (by decide)), e f_r_rest (v_dj.o hT (by decide)), e f_r_power (v_dj.o hT (by decide)), hx]
    exact h1 r hr
  · rw [e f_k_kind (v_dj.o hT (by decide))]; exact h2 k hk
  · rw [e f_a_owners (v_dj.o hT (by decide))]; exact h3 v hv
  · rw [e f_a_openings (v_dj.o hT (by decide))]; exact h4 d hd
  · rw [e f_a_temperings (v_dj.o hT (by decide))]; exact h6 i hi
  · rw [e f_heat (v_dj.o hT (by decide))]; exact h7
theorem z_V.N {p : e_Sp} {I I' : e_I} {T : List Nat} (h : z_V p I) (e : s_eqN T I I') (hT : v_dj z_Vl T = true) : z_V p I' := by
  obtain ⟨h1, h2, h3⟩ := h
  refine ⟨fun r hr i hi => ?_, ?_, fun k hk => ?_⟩
  · rw [e f_p_fault (v_dj.o hT (by decide))]; exact h1 r hr i hi
  · rw [e f_crescendo (v_dj.o hT (by decide))]; exact h2
  · rw [e f_s_stage (v_dj.o hT (by decide))]; exact h3 k hk
theorem z_V.p {p p' : e_Sp} {I : e_I} (h : z_V p I) (hx : p'.2.2.1 T_PARR = p.2.2.1 T_PARR) (hb : p'.2.2.2.2 = p.2.2.2.2) : z_V p' I := ⟨fun r hr i hi => by
  rw [hb]
  exact h.1 r hr i (by rw [← hx]; exact hi), h.2⟩
/-- all that holds between calls -/
def z_O (T e ax : Nat) (S : e_SS) : Prop := (∃ np, z_H T e 9 3 np S.1 S.2.1 S.2.2.1 S.2.2.2.1) ∧ z_F S.1 S.2.1 ∧ z_V S.1 S.2.1 ∧ S.1.1 T_HALL 0 = ax
theorem s_xt.HALL {p p' : e_Sp} (x : s_xt p p') : p'.1 T_HALL 0 = p.1 T_HALL 0 := by rw [(x.1 T_HALL rfl).1]
theorem s_xt.PARR {p p' : e_Sp} (x : s_xt p p') : p'.2.2.1 T_PARR = p.2.2.1 T_PARR := (x.1 T_PARR rfl).2.2
/-- a call has come to its end -/
theorem z_mk {T ax np : Nat} {p p' : e_Sp} {I : e_I} {A B : e_I × e_Jt} {c' : Nat × Nat} {w : e_Rw1} {a b n' s' m' L : Nat} {t' : Nat → Nat} {TC : List Nat} (hT : T + 1 ≤ 500) (ha : a ≤ 1000 + 400 * (T + 1)) (hb : b ≤ 40000 + 2500 * (T + 1)) (hnp : T ≤ 500 ∧ np ≤ 42 * 3 ∧ 3 ≤ 3) (hF : z_F p I) (hV : z_V p A.1) (hax : p.1 T_HALL 0 = ax) (hh : p'.1 T_HALL 0 = p.1 T_HALL 0) (hpa : p'.2.2.1 T_PARR = p.2.2.1 T_PARR) (hbs : p'.2.2.2.2 = p.2.2.2.2) (hD : s_D p' A.1 9 3) (hW : v_Wd 9 A.1) (hTp : s_Tp p' A.1 c' a b) (e : s_eqN TC I A.1) (hTC : v_dj z_Fl TC = true) {K : Nat} (hR : z_GI K np B) (hS : v_Sim p 9 3 np n' t' s' m' L A B) (hK : K ≤ 600000 * (T + 1)) (hL : L ≤ T + 1) (hn : n' ≤ 600 * (T + 1)) (hm : m' ≤ 100040 * (T + 1)) : z_O (T + 1) 0 ax (p', A.1, A.2, c', w) :=
  ⟨⟨np, hD, hW, ⟨a, b, hTp, Nat.le_trans ha (Nat.le_add_right _ _), Nat.le_trans hb (Nat.le_add_right _ _)⟩, ⟨hT, hnp.2.1, Nat.le_refl 3⟩, n', t', s', m', B.1, B.2, (hS.L hL).p hbs hpa, ⟨K, hK, hR⟩, hn, hm⟩, hF.N hpa e hTC, hV.p hpa hbs, hh.trans hax⟩
theorem z_room {p : e_Sp} {I : e_I} {c : Nat × Nat} {a b T e : Nat} (h : s_Tp p I c a b) (ha : a ≤ 1000 + 400 * T + e) (hT : T ≤ 500 ∧ e ≤ 400) : c.1 < e_xb := by
  obtain ⟨-, ⟨k, -, hk, hc, -⟩, -⟩ := h
  have : e_xb = 4294967296 := rfl
  omega
theorem z_dv {j : Nat} (hj : j < 3) : s_isdv (nI j) = true := by
  rcases (show j = 0 ∨ j = 1 ∨ j = 2 by omega) with rfl | rfl | rfl <;> decide
/-- an exception was made -/
theorem z_O.ex {T e ax : Nat} {p : e_Sp} {I : e_I} {J : e_Jt} {c : Nat × Nat} {w : e_Rw1} (h : z_O T e ax (p, I, J, c, w)) (he : e ≤ 400) : z_O T (e + 1) ax (p, I, J, (c.1 + 1, c.2 + 6), w) := by
  obtain ⟨⟨np, hD, hW, ⟨a, b, hTp, ha, hb⟩, hnp, hg⟩, hr⟩ := h
  exact ⟨⟨np, hD, hW, ⟨a + 1, b + 6, hTp.v (x := 1) (y := 6) rfl rfl rfl (by omega), by omega, by omega⟩, hnp, hg⟩, hr⟩
theorem z_O.up {T e ax : Nat} {S : e_SS} (h : z_O T e ax S) (he : e ≤ 400) (hT : T < 500) : z_O (T + 1) 0 ax S := by
  obtain ⟨⟨np, hD, hW, ⟨a, b, hTp, ha, hb⟩, hnp, n, t, s, m, I', J', hS, ⟨K, hK, hR⟩, hn, hm⟩, hr⟩ := h
  exact ⟨⟨np, hD, hW, ⟨a, b, hTp, by omega, by omega⟩, ⟨by omega, hnp.2⟩, n, t, s, m, I', J', hS.L (by omega), ⟨K, by omega, hR⟩, by omega, by omega⟩, hr⟩
theorem z_O.ax {T e ax : Nat} {S : e_SS} (h : z_O T e ax S) : S.1.1 T_HALL 0 = ax := h.2.2.2
theorem z_O.ok {T e ax : Nat} {S : e_SS} (h : z_O T e ax S) : s_ok S.1 := by
  obtain ⟨⟨np, hD, -⟩, -⟩ := h
  exact hD.1.1
theorem z_O.D {T e ax : Nat} {S : e_SS} (h : z_O T e ax S) : s_D S.1 S.2.1 9 3 := by
  obtain ⟨⟨np, hD, -⟩, -⟩ := h
  exact hD
theorem z_O.c {T e ax : Nat} {S : e_SS} (h : z_O T e ax S) (he : e ≤ 400) : S.2.2.2.1.1 < e_xb := by
  obtain ⟨⟨np, hD, hW, ⟨a, b, hTp, ha, hb⟩, hnp, -⟩, -⟩ := h
  exact z_room hTp ha ⟨hnp.1, he⟩
theorem z_me {p : e_Sp} {nk nr np n s m L : Nat} {t : Nat → Nat} {I I' : e_I} {J J' : e_Jt} (h : v_Sim p nk nr np n t s m L (I, J) (I', J')) : s_Me I := by
  obtain ⟨-, -, ⟨⟨g, hg, e1, -⟩, ⟨v, hv, e2, -⟩, -⟩, -, -, -, h6⟩ := h
  exact ⟨⟨g, hg, e1⟩, ⟨v, hv, e2⟩, fun g hg => (h6.2.2 g hg).imp (fun m hm => ⟨hm.1, hm.2.1⟩)⟩
theorem z_plo {y : Nat} (hy : y < 8) : s_plo (-1) (nI y) = nI y := by
  unfold s_plo
  rw [if_pos rfl, if_pos ⟨nI_pos' (by omega), (nI_ltI (b := 8) (by omega) (by decide)).mpr hy⟩]
theorem z_ps {y : Nat} (hy : y < 8) : q_ps (-1) (nI y) = true := by
  rcases (show y = 0 ∨ y = 1 ∨ y = 2 ∨ y = 3 ∨ y = 4 ∨ y = 5 ∨ y = 6 ∨ y = 7 by omega) with rfl | rfl | rfl | rfl | rfl | rfl | rfl | rfl <;> decide
theorem z_clo {p : e_Sp} {nk nr np n s m L : Nat} {t : Nat → Nat} {I I' : e_I} {J J' : e_Jt} (h : v_Sim p nk nr np n t s m L (I, J) (I', J')) (hF : z_F p I) : s_clo I = false := by
  obtain ⟨-, -, ⟨-, ⟨v, hv, e2, -⟩, -⟩, -⟩ := h
  unfold s_clo s_clm
  have e3 : I f_level 0 = nI v := e2
  rw [e3, nI_clamp (show v < 2 ^ 31 by omega), hF.2.2.1 v hv]
  rfl
theorem z_kpI {I : e_I} {x : Int32} : s_eqN [f_a_isSet] I (s_kpI I x) := by
  unfold s_kpI
  split
  · exact s_eqN.rfl'
  · exact s_eqN.up (by decide)
theorem z_krv {I : e_I} {x y : Int32} : s_eqN [f_a_reversibles] I (s_krv I x y) := by
  unfold s_krv
  split
  · exact s_eqN.up (by decide)
  · exact s_eqN.rfl'
theorem s_eqN.C {T : List Nat} {I I' : e_I} (e : s_eqN T I I') (hT : v_dj (f_l_size :: s_cs) T = true) : s_eqC I I' := ⟨fun l _ => by rw [e f_l_size (v_dj.o hT (by decide))], fun F hF i => by rw [e F (v_dj.o hT (List.contains_iff_mem.mpr (List.mem_cons_of_mem _ hF)))]⟩
theorem s_eqN.T {T : List Nat} {I I' : e_I} (e : s_eqN T I I') (hT : v_dj [f_tsize, f_entries] T = true) : s_eqT I I' := ⟨by rw [e f_tsize (v_dj.o hT (by decide))], fun i => by rw [e f_entries (v_dj.o hT (by decide))]⟩
theorem z_srv {p : e_Sp} {np n s m L r j : Nat} {t : Nat → Nat} {I I' : e_I} {J J' : e_Jt} (hr : r < 4) (hj : j < 9) (h : v_Sim p 9 3 np n t s m L (I, J) (I', J')) : v_Sim p 9 3 np n t s m L (s_krv I (nI r) (nI j), J) (q_st 9 3 np (s_up I' f_m_reversible (I f_level 0 * 4 + nI r).toNatClampNeg (nI j), J')) := by
  have e : s_krv I (nI r) (nI j) = s_up I f_a_reversibles (I f_level 0 * 4 + nI r).toNatClampNeg (nI j) := if_pos (h_kj hr (by decide))
  rw [e]
  exact a_setReversible ⟨j, hj, rfl⟩ h
theorem z_qmvS {y z : Int64} (i : Nat) (a : e_I × Int32) : s_eqN [f_mk_isDrawn] a.1 (q_mvS y z i a).1 := by
  unfold q_mvS
  split
  · exact s_eqN.up (by decide)
  · exact s_eqN.rfl'
theorem z_qmt {nk : Nat} {y z : Int64} {I : e_I} : s_eqN [f_mk_isDrawn] I (q_mt nk y z I).1 := s_eqN.runP z_qmvS _ _ _
theorem z_V.cre {p : e_Sp} {I : e_I} {y : Nat} (h : z_V p I) (hy : y ≤ 9) : z_V p (s_up I f_crescendo 0 (nI y)) := by
  refine ⟨fun r hr i hi => ?_, ⟨y, hy, s_up_s⟩, fun k hk => ?_⟩
  · rw [s_up_F (by decide)]; exact h.1 r hr i hi
  · rw [s_up_F (by decide)]; exact h.2.2 k hk
theorem z_V.stg {p : e_Sp} {I : e_I} {y j : Nat} (h : z_V p I) (hy : y ≤ 9) : z_V p (s_up I f_s_stage j (nI y)) := by
  refine ⟨fun r hr i hi => ?_, ?_, fun k hk => ?_⟩
  · rw [s_up_F (by decide)]; exact h.1 r hr i hi
  · rw [s_up_F (by decide)]; exact h.2.1
  · by_cases e : k = j
    · rw [e, s_up_s]; exact ⟨y, hy, rfl⟩
    · rw [s_up_i e]; exact h.2.2 k hk
theorem z_V.flt {p : e_Sp} {I : e_I} {j : Nat} {z : Int32} (h : z_V p I) (hz : z = 99 ∨ z = 100 ∨ z = 45) : z_V p (s_up I f_p_fault j z) := by
  refine ⟨fun r hr i hi => ?_, ?_, fun k hk => ?_⟩
  · by_cases e : p.2.2.2.2 r + i = j
    · rw [e, s_up_s]
      rcases hz with h | h | h
      · exact .inr (.inl h)
      · exact .inr (.inr h)
      · exact .inl h
    · rw [s_up_i e]; exact h.1 r hr i hi
  · rw [s_up_F (by decide)]; exact h.2.1
  · rw [s_up_F (by decide)]; exact h.2.2 k hk
theorem z_keJ {kn dn j i F : Nat} {I : e_I} {J : e_Jt} (h1 : F ≠ kn) (h2 : F ≠ dn) : q_keJ kn dn I j i J F = J F := by
  funext k
  unfold q_keJ
  rw [s_up_F h2, s_up_F h1]
theorem z_seJ {I : e_I} {x : Int32} {j F : Nat} {J : e_Jt} (h1 : F ≠ j_mg_knobs) (h2 : F ≠ j_mg_drawn) : ∀ n, s_run (q_seF I x j) 0 n (s_up (s_up J j_mg_knobs j 0) j_mg_drawn j 0) F = J F := by
  intro n
  induction n with
  | zero =>
    funext k
    show s_up (s_up J j_mg_knobs j 0) j_mg_drawn j 0 F k = J F k
    rw [s_up_F h2, s_up_F h1]
  | succ n ih =>
    rw [s_run_l]
    have e1 : ∀ JJ : e_Jt, q_seF I x j (0 + n) JJ F = JJ F := fun JJ => by
      unfold q_seF
      by_cases c : (if x = -1 then ¬ I f_mk_isIn (0 + n) = 0 else I f_mk_kind (0 + n) = 115 ∧ I f_mk_division (0 + n) = x)
      · rw [if_pos c, z_keJ h1 h2]
      · rw [if_neg c]
    rw [e1]
    exact ih
theorem z_fmJ {I : e_I} {J : e_Jt} {nk g t m F : Nat} (h1 : F ≠ j_mf_knobs) (h2 : F ≠ j_mf_drawn) : q_fmJ I J nk g t m F = J F := by
  have key : ∀ n, s_run (q_keJ j_mf_knobs j_mf_drawn (s_IMFRAME I (64 * g + m) 0) (64 * g + m)) 0 n (s_JMFRAME J (64 * g + m) 0 0) F = J F := by
    intro n
    induction n with
    | zero =>
      funext k
      show s_up (s_up J j_mf_knobs (64 * g + m) 0) j_mf_drawn (64 * g + m) 0 F k = J F k
      rw [s_up_F h2, s_up_F h1]
    | succ n ih => rw [s_run_l, z_keJ h1 h2]; exact ih
  funext k
  unfold q_fmJ s_rnJ
  rw [if_neg (fun z => z.elim h1 h2), key]
theorem z_fmI {I' : e_I} {g e m9 : Nat} : s_eqN [f_mf_isSet, f_l_modCount, f_l_size] I' (q_fmI I' g e m9) := by
  intro F hF
  have h1 : F ≠ f_mf_isSet := fun z => by rw [z] at hF; exact absurd hF (by decide)
  have h2 : F ≠ f_l_modCount := fun z => by rw [z] at hF; exact absurd hF (by decide)
  have h3 : F ≠ f_l_size := fun z => by rw [z] at hF; exact absurd hF (by decide)
  funext i
  unfold q_fmI s_adF s_rnI s_IMFRAME
  rw [s_up_F h3, if_neg h1, s_up_F h2, s_up_F h1]
theorem z_re0 {I : e_I} {x : Int32} : s_eqN [f_m_thrown, f_m_recording] I (q_re0 I x) := (s_eqN.up (by decide)).trans (s_eqN.up (by decide))
theorem z_reK {I : e_I} {x : Int32} : s_eqN [f_m_thrown, f_m_recording, f_l_modCount, f_l_size, f_m_kindKept] I (q_reK I x) := (((z_re0.mono (by decide)).trans (s_eqN.up (by decide))).trans (s_eqN.up (by decide))).trans (s_eqN.up (by decide))
theorem z_tp0 {p : e_Sp} {I : e_I} {c : Nat × Nat} {a b : Nat} {x y : Int32} (h : s_Tp p I c a b) (e : s_eqN [f_recording, f_tkind, f_tsize, f_startedAt] I (s_up (s_up (s_up (s_up I f_recording 0 x) f_tkind 0 x) f_tsize 0 0) f_startedAt 0 y)) : s_Tp p (s_up (s_up (s_up (s_up I f_recording 0 x) f_tkind 0 x) f_tsize 0 0) f_startedAt 0 y) c a b := by
  obtain ⟨h1, h2, -, h4, h5⟩ := h
  refine ⟨h1, h2, ⟨0, ?_, Nat.zero_le _⟩, fun i h8 h9 => ?_, h5⟩
  · rw [s_up_F (by decide), s_up_s]; rfl
  · rw [e f_entries (by decide)]; exact h4 i h8 h9
theorem z_fig (y : Int32) : s_fig y = 1 ∨ s_fig y = 2 ∨ s_fig y = 3 ∨ s_fig y = 4 ∨ s_fig y = 5 := by
  unfold s_fig
  split
  · exact .inl rfl
  · split
    · exact .inr (.inl rfl)
    · split
      · exact .inr (.inr (.inl rfl))
      · split
        · exact .inr (.inr (.inr (.inl rfl)))
        · exact .inr (.inr (.inr (.inr rfl)))
theorem z_frs {p : e_Sp} {nk nr np n s m L : Nat} {t : Nat → Nat} {I I' : e_I} {J J' : e_Jt} (h : v_Sim p nk nr np n t s m L (I, J) (I', J')) : 0 ≤ s_frs I := by
  obtain ⟨⟨g, hg, e⟩, -, h3⟩ := z_me h
  obtain ⟨m8, hm8, e8⟩ := h3 g hg
  unfold s_frs
  rw [e, nI_clamp (by omega), e8]
  exact nI_pos' (by omega)
theorem z_cl {x : Int32} : v_in (q_cl x) (-50) 50 := by
  have h : -50 ≤ q_cl x ∧ q_cl x ≤ 50 := by
    unfold q_cl
    grind
  exact z_in h
theorem z_r8 : ∀ x, x < 8 → s_r8 (nI x + 1) = nI ((x + 1) % 8) := by decide
theorem z_pbE {np j : Nat} {B : e_I} {BJ : e_Jt} : z_T 0 np (B, BJ) (q_pbE j B, BJ) := by
  unfold q_pbE
  split
  · exact z_T.N q_mdv_e.1 (by decide) rfl rfl
  · exact z_T.N (T := [f_m_isHeld]) (s_eqN.up (by decide)) (by decide) rfl rfl
theorem z_pbS {nk nr np j : Nat} {t : Nat → Nat} {a : e_I × e_Jt} : z_T (2 * (t j - t (j - 1)) + 1) np a (q_pbS t nk nr np j a) := by
  have h1 : z_T (2 * (t j - t (j - 1))) np a (q_pbT t nk nr np j a) := z_T.tcs _ 0 a
  have h2 : z_T 0 np (q_pbT t nk nr np j a) (q_pbE j (q_pbT t nk nr np j a).1, (q_pbT t nk nr np j a).2) := z_pbE (B := (q_pbT t nk nr np j a).1) (BJ := (q_pbT t nk nr np j a).2)
  have h3 := (h1.trans h2).trans (z_T.st (nk := nk) (nr := nr) (np := np) (a := (q_pbE j (q_pbT t nk nr np j a).1, (q_pbT t nk nr np j a).2)))
  exact h3
theorem z_pbR {nk nr np n : Nat} {t : Nat → Nat} {a : e_I × e_Jt} (ht : ∀ j, j + 1 < n → t j ≤ t (j + 1)) : ∀ k, k ≤ n → z_T (k + 2 * (t (k - 1) - t 0)) np a (s_run (q_pbS t nk nr np) 0 k a) := by
  intro k
  induction k with
  | zero => intro _; rw [Nat.zero_sub, Nat.sub_self]; exact z_T.rfl'
  | succ k ih =>
    intro hk
    rw [s_run_l, Nat.zero_add, Nat.add_sub_cancel]
    have h := (ih (by omega)).trans (z_pbS (nk := nk) (nr := nr) (np := np) (j := k) (t := t) (a := s_run (q_pbS t nk nr np) 0 k a))
    have m0 : ∀ i, i < n → t 0 ≤ t i := by
      intro i
      induction i with
      | zero => intro _; exact Nat.le_refl _
      | succ i ih2 => intro hi; exact Nat.le_trans (ih2 (by omega)) (ht i (by omega))
    have e : k + 2 * (t (k - 1) - t 0) + (2 * (t k - t (k - 1)) + 1) = k + 1 + 2 * (t k - t 0) := by
      have a1 := m0 (k - 1) (by omega)
      have a2 : t (k - 1) ≤ t k := by
        by_cases z : k = 0
        · rw [z]; exact Nat.le_refl _
        · have := ht (k - 1) (by omega)
          rw [show k - 1 + 1 = k by omega] at this
          exact this
      omega
    rw [e] at h
    exact h
theorem z_T.mono {D E np : Nat} {a b : e_I × e_Jt} (h : z_T D np a b) (hD : D ≤ E) : z_T E np a b := fun f g K hf => by
  obtain ⟨f', g', h1, h2⟩ := h f g K hf
  refine ⟨f', g', ⟨fun q hq => ?_, h1.2.1, h1.2.2.1, h1.2.2.2.mono (by omega)⟩, fun q hq => ?_⟩
  · obtain ⟨a1, a2, a3, a4⟩ := h1.1 q hq
    exact ⟨by omega, a2, a3, a4⟩
  · have := h2 q hq
    omega
theorem z_lf {I : e_I} : s_eqN (f_l_size :: q_mT) I (q_lf I).1 := s_eqN.runP (a := (I, (0 : Int32))) (fun _ _ => s_eqN.runP (fun _ _ => q_mdv_e.1) _ _ _) _ _
set_option maxRecDepth 100000 in
theorem z_pb {nk nr np n : Nat} {t : Nat → Nat} {I' : e_I} {J' : e_Jt} (ht : ∀ j, j + 1 < n → t j ≤ t (j + 1)) : z_T (n + 2 * (t (n - 1) - t 0) + 2) np (I', J') (q_an (q_pb1 nk nr np (s_run (q_pbS t nk nr np) 0 n (q_pb0 nk nr np I' J'))).1, (q_pb1 nk nr np (s_run (q_pbS t nk nr np) 0 n (q_pb0 nk nr np I' J'))).2) := by
  have h9 : z_T 0 np (I', J') (q_pbI I', J') := by
    have e : s_eqN [f_m_recording] I' (q_pbI I') := by
      unfold q_pbI
      exact s_eqN.up (by decide)
    exact z_T.N e (by decide) rfl rfl
  have h0 : z_T 1 np (I', J') (q_pb0 nk nr np I' J') := by
    unfold q_pb0
    split
    · have e9 := z_lf (I := q_pbI I')
      generalize q_lf (q_pbI I') = L9 at e9 ⊢
      have a1 : z_T 0 np (I', J') (L9.1, J') := h9.trans (z_T.N (T := f_l_size :: q_mT) (a := (q_pbI I', J')) (b := (L9.1, J')) e9 (by decide) rfl rfl)
      have a2 := a1.trans (z_T.st (nk := nk) (nr := nr) (np := np) (a := (L9.1, J')))
      generalize q_st nk nr np (L9.1, J') = L8 at a2 ⊢
      exact a2.trans (z_T.N (T := [f_m_thrown]) (a := L8) (b := (q_an L8.1, L8.2)) (s_eqN.up (by decide)) (by decide) rfl rfl)
    · exact h9.mono (by omega)
  generalize q_pb0 nk nr np I' J' = A0 at h0
  have h1 := h0.trans (z_pbR (nk := nk) (nr := nr) (np := np) (a := A0) ht n (Nat.le_refl n))
  generalize s_run (q_pbS t nk nr np) 0 n A0 = A1 at h1
  have h2 : z_T 1 np A1 (q_pb1 nk nr np A1) := by
    have a1 : z_T 0 np A1 (s_fill A1.1 f_m_isHeld np 0, A1.2) := z_T.N (T := [f_m_isHeld]) (s_eqN.fill (by decide)) (by decide) rfl rfl
    have a2 := a1.trans (z_T.st (nk := nk) (nr := nr) (np := np) (a := (s_fill A1.1 f_m_isHeld np 0, A1.2)))
    exact a2
  have h3 := h1.trans h2
  generalize q_pb1 nk nr np A1 = A2 at h3
  have h4 := h3.trans (z_T.N (T := [f_m_thrown]) (a := A2) (b := (q_an A2.1, A2.2)) (s_eqN.up (by decide)) (by decide) rfl rfl)
  exact h4.mono (by omega)
theorem s_eqN.qfiC {u st ch : Int32} {i j : Nat} (k : Nat) (a : e_I × Int32 × Int32) : s_eqN [f_m_best] a.1 (q_fiC u st ch i j k a).1 := by
  unfold q_fiC
  split
  · exact ((s_eqN.up (by decide)).trans (s_eqN.up (by decide))).trans (s_eqN.up (by decide))
  · exact s_eqN.rfl'
theorem s_eqN.qfiB {u st ch : Int32} {i : Nat} (j : Nat) (a : e_I × Int32 × Int32) : s_eqN [f_m_best] a.1 (q_fiB u st ch i j a).1 := s_eqN.runP s_eqN.qfiC _ _ _
theorem s_eqN.qfiA {u st ch : Int32} (i : Nat) (a : e_I × Int32 × Int32) : s_eqN [f_m_best] a.1 (q_fiA u st ch i a).1 := s_eqN.runP s_eqN.qfiB _ _ _
theorem s_eqN.qfi {I : e_I} {u st ch : Int32} : s_eqN [f_m_best] I (q_fi I u st ch).1 := s_eqN.runP s_eqN.qfiA _ _ (I, 99, 0)
theorem z_isk {d n : Nat} (hd : d < 3) (hn : n < 61) (h0 : d = 0 → n < 32) : s_isk (nI d) (nI n) ∧ s_kn (nI d) (nI n) = d * 61 + n := by
  refine ⟨⟨nI_pos' (by omega), (nI_ltI (b := 3) (by omega) (by decide)).mpr hd, nI_pos' (by omega), (nI_ltI (b := 61) (by omega) (by decide)).mpr hn, fun z => ?_⟩, ?_⟩
  · have : d = 0 := (nI_eq (b := 0) (by omega) (by decide)).mp z
    exact (nI_ltI (b := 32) (by omega) (by decide)).mpr (h0 this)
  · unfold s_kn
    rw [nI_clamp (by omega), nI_clamp (by omega)]
