/-! 9999999999999997a: what stands between the law's calls (a ghost beside the class: the reference's numbers, which no heap holds) -/
theorem v_Rg.st {nk nr np : Nat} {I : e_I} {J : e_Jt} (h : v_Rg nr np I) : v_Rg nr np (q_st nk nr np (I, J)).1 := h.N (q_st_e (nk := nk) (nr := nr) (np := np) (a := (I, J))).1 (by decide)
theorem v_Rg.tcs {nk nr np k i : Nat} {a : e_I × e_Jt} (h : v_Rg nr np a.1) : v_Rg nr np (s_run (q_tc nk nr np) i k a).1 := h.N h_tcsE.1 (by decide)
/-- room, the class, the ghost -/
def z_H (T e nk nr np : Nat) (p : e_Sp) (I : e_I) (J : e_Jt) (c : Nat × Nat) : Prop :=
  s_D p I nk nr ∧ v_Wd nk I ∧ (∃ a b, s_Tp p I c a b ∧ a ≤ 1000 + 400 * T + e ∧ b ≤ 40000 + 2500 * T + 6 * e) ∧ (T ≤ 500 ∧ np ≤ 42 * nr ∧ nr ≤ 3) ∧ ∃ n t s m I' J', v_Sim p nk nr np n t s m T (I, J) (I', J') ∧ v_Rg nr np I' ∧ n ≤ 600 * T ∧ m ≤ 100040 * T
/-- what the law makes and never changes -/
def z_Fl : List Nat := [f_r_lowest, f_r_delay, f_r_rest, f_r_power, f_k_kind, f_a_owners, f_a_openings]
def z_F (p : e_Sp) (I : e_I) : Prop :=
  (∀ r, r < 3 → ∃ lo dl rs pw, I f_r_lowest r = nI lo ∧ I f_r_delay r = nI dl ∧ I f_r_rest r = nI rs ∧ I f_r_power r = nI pw ∧ (36 ≤ lo ∧ lo ≤ 44 ∧ 49 ≤ lo + p.2.2.1 T_PARR r ∧ lo + p.2.2.1 T_PARR r ≤ 78) ∧ dl ≤ 2 ∧ rs ≤ 2 ∧ pw ≤ 90) ∧
  (∀ k, k < 9 → (I f_k_kind k = 115 ↔ 3 ≤ k ∧ k < 6)) ∧ (∀ v, v < 4 → I f_a_owners v = -1) ∧ ∀ d, d < 3 → ∃ o, o ≤ 10 ∧ I f_a_openings d = nI o
/-- what calls change -/
def z_Vl : List Nat := [f_p_fault, f_crescendo, f_s_stage]
def z_V (I : e_I) : Prop := (∀ q, I f_p_fault q = 0 ∨ I f_p_fault q = 45 ∨ I f_p_fault q = 99 ∨ I f_p_fault q = 100) ∧ (∃ c, c ≤ 9 ∧ I f_crescendo 0 = nI c) ∧ ∀ k, k < 9 → ∃ s, s ≤ 9 ∧ I f_s_stage k = nI s
theorem z_F.N {p p' : e_Sp} {I I' : e_I} {T : List Nat} (h : z_F p I) (hx : p'.2.2.1 T_PARR = p.2.2.1 T_PARR) (e : s_eqN T I I') (hT : v_dj z_Fl T = true) : z_F p' I' := by
  obtain ⟨h1, h2, h3, h4⟩ := h
  refine ⟨fun r hr => ?_, fun k hk => ?_, fun v hv => ?_, fun d hd => ?_⟩
  · rw [e f_r_lowest (v_dj.o hT (by decide)), e f_r_delay (v_dj.o hT (by decide)), e f_r_rest (v_dj.o hT (by decide)), e f_r_power (v_dj.o hT (by decide)), hx]
    exact h1 r hr
  · rw [e f_k_kind (v_dj.o hT (by decide))]; exact h2 k hk
  · rw [e f_a_owners (v_dj.o hT (by decide))]; exact h3 v hv
  · rw [e f_a_openings (v_dj.o hT (by decide))]; exact h4 d hd
theorem z_V.N {I I' : e_I} {T : List Nat} (h : z_V I) (e : s_eqN T I I') (hT : v_dj z_Vl T = true) : z_V I' := by
  obtain ⟨h1, h2, h3⟩ := h
  refine ⟨fun q => ?_, ?_, fun k hk => ?_⟩
  · rw [e f_p_fault (v_dj.o hT (by decide))]; exact h1 q
  · rw [e f_crescendo (v_dj.o hT (by decide))]; exact h2
  · rw [e f_s_stage (v_dj.o hT (by decide))]; exact h3 k hk
/-- all that holds between calls -/
def z_O (T e ax : Nat) (S : e_SS) : Prop := (∃ np, z_H T e 9 3 np S.1 S.2.1 S.2.2.1 S.2.2.2.1) ∧ z_F S.1 S.2.1 ∧ z_V S.2.1 ∧ S.1.1 T_HALL 0 = ax
theorem s_xt.HALL {p p' : e_Sp} (x : s_xt p p') : p'.1 T_HALL 0 = p.1 T_HALL 0 := by rw [(x.1 T_HALL rfl).1]
theorem s_xt.PARR {p p' : e_Sp} (x : s_xt p p') : p'.2.2.1 T_PARR = p.2.2.1 T_PARR := (x.1 T_PARR rfl).2.2
/-- a call has come to its end -/
theorem z_mk {T ax np : Nat} {p p' : e_Sp} {I : e_I} {A B : e_I × e_Jt} {c' : Nat × Nat} {w : e_Rw1} {a b n' s' m' L : Nat} {t' : Nat → Nat} {TC : List Nat} (hT : T + 1 ≤ 500) (ha : a ≤ 1000 + 400 * (T + 1)) (hb : b ≤ 40000 + 2500 * (T + 1)) (hnp : T ≤ 500 ∧ np ≤ 42 * 3 ∧ 3 ≤ 3) (hF : z_F p I) (hV : z_V A.1) (hax : p.1 T_HALL 0 = ax) (hh : p'.1 T_HALL 0 = p.1 T_HALL 0) (hpa : p'.2.2.1 T_PARR = p.2.2.1 T_PARR) (hbs : p'.2.2.2.2 = p.2.2.2.2) (hD : s_D p' A.1 9 3) (hW : v_Wd 9 A.1) (hTp : s_Tp p' A.1 c' a b) (e : s_eqN TC I A.1) (hTC : v_dj z_Fl TC = true) (hR : v_Rg 3 np B.1) (hS : v_Sim p 9 3 np n' t' s' m' L A B) (hL : L ≤ T + 1) (hn : n' ≤ 600 * (T + 1)) (hm : m' ≤ 100040 * (T + 1)) : z_O (T + 1) 0 ax (p', A.1, A.2, c', w) :=
  ⟨⟨np, hD, hW, ⟨a, b, hTp, Nat.le_trans ha (Nat.le_add_right _ _), Nat.le_trans hb (Nat.le_add_right _ _)⟩, ⟨hT, hnp.2.1, Nat.le_refl 3⟩, n', t', s', m', B.1, B.2, (hS.L hL).p hbs hpa, hR, hn, hm⟩, hF.N hpa e hTC, hV, hh.trans hax⟩
theorem z_room {p : e_Sp} {I : e_I} {c : Nat × Nat} {a b T e : Nat} (h : s_Tp p I c a b) (ha : a ≤ 1000 + 400 * T + e) (hT : T ≤ 500 ∧ e ≤ 400) : c.1 < e_xb := by
  obtain ⟨-, ⟨k, -, hk, hc, -⟩, -⟩ := h
  have : e_xb = 4294967296 := rfl
  omega
theorem z_dv {j : Nat} (hj : j < 3) : s_isdv (nI j) = true := by
  rcases (show j = 0 ∨ j = 1 ∨ j = 2 by omega) with rfl | rfl | rfl <;> decide
/-- an exception was made -/
theorem z_O.ex {T e ax : Nat} {p : e_Sp} {I : e_I} {J : e_Jt} {c : Nat × Nat} {w : e_Rw1} (h : z_O T e ax (p, I, J, c, w)) (he : e ≤ 400) : z_O T (e + 1) ax (p, I, J, (c.1 + 1, c.2 + 6), w) := by
  obtain ⟨⟨np, hD, hW, ⟨a, b, hTp, ha, hb⟩, hnp, hg⟩, hr⟩ := h
  exact ⟨⟨np, hD, hW, ⟨a + 1, b + 6, hTp.v (x := 1) (y := 6) rfl rfl rfl (by omega), by omega, by omega⟩, hnp, hg⟩, hr⟩
theorem z_O.up {T e ax : Nat} {S : e_SS} (h : z_O T e ax S) (he : e ≤ 400) (hT : T < 500) : z_O (T + 1) 0 ax S := by
  obtain ⟨⟨np, hD, hW, ⟨a, b, hTp, ha, hb⟩, hnp, n, t, s, m, I', J', hS, hR, hn, hm⟩, hr⟩ := h
  exact ⟨⟨np, hD, hW, ⟨a, b, hTp, by omega, by omega⟩, ⟨by omega, hnp.2⟩, n, t, s, m, I', J', hS.L (by omega), hR, by omega, by omega⟩, hr⟩
theorem z_O.ax {T e ax : Nat} {S : e_SS} (h : z_O T e ax S) : S.1.1 T_HALL 0 = ax := h.2.2.2
theorem z_O.ok {T e ax : Nat} {S : e_SS} (h : z_O T e ax S) : s_ok S.1 := by
  obtain ⟨⟨np, hD, -⟩, -⟩ := h
  exact hD.1.1
theorem z_O.D {T e ax : Nat} {S : e_SS} (h : z_O T e ax S) : s_D S.1 S.2.1 9 3 := by
  obtain ⟨⟨np, hD, -⟩, -⟩ := h
  exact hD
theorem z_O.c {T e ax : Nat} {S : e_SS} (h : z_O T e ax S) (he : e ≤ 400) : S.2.2.2.1.1 < e_xb := by
  obtain ⟨⟨np, hD, hW, ⟨a, b, hTp, ha, hb⟩, hnp, -⟩, -⟩ := h
  exact z_room hTp ha ⟨hnp.1, he⟩
theorem z_me {p : e_Sp} {nk nr np n s m L : Nat} {t : Nat → Nat} {I I' : e_I} {J J' : e_Jt} (h : v_Sim p nk nr np n t s m L (I, J) (I', J')) : s_Me I := by
  obtain ⟨-, -, ⟨⟨g, hg, e1, -⟩, ⟨v, hv, e2, -⟩, -⟩, -, -, -, h6⟩ := h
  exact ⟨⟨g, hg, e1⟩, ⟨v, hv, e2⟩, fun g hg => (h6.2.2 g hg).imp (fun m hm => ⟨hm.1, hm.2.1⟩)⟩
theorem z_plo {y : Nat} (hy : y < 8) : s_plo (-1) (nI y) = nI y := by
  unfold s_plo
  rw [if_pos rfl, if_pos ⟨nI_pos' (by omega), (nI_ltI (b := 8) (by omega) (by decide)).mpr hy⟩]
theorem z_ps {y : Nat} (hy : y < 8) : q_ps (-1) (nI y) = true := by
  rcases (show y = 0 ∨ y = 1 ∨ y = 2 ∨ y = 3 ∨ y = 4 ∨ y = 5 ∨ y = 6 ∨ y = 7 by omega) with rfl | rfl | rfl | rfl | rfl | rfl | rfl | rfl <;> decide
theorem z_clo {p : e_Sp} {nk nr np n s m L : Nat} {t : Nat → Nat} {I I' : e_I} {J J' : e_Jt} (h : v_Sim p nk nr np n t s m L (I, J) (I', J')) (hF : z_F p I) : s_clo I = false := by
  obtain ⟨-, -, ⟨-, ⟨v, hv, e2, -⟩, -⟩, -⟩ := h
  unfold s_clo s_clm
  have e3 : I f_level 0 = nI v := e2
  rw [e3, nI_clamp (show v < 2 ^ 31 by omega), hF.2.2.1 v hv]
  rfl
theorem z_kpI {I : e_I} {x : Int32} : s_eqN [f_a_isSet] I (s_kpI I x) := by
  unfold s_kpI
  split
  · exact s_eqN.rfl'
  · exact s_eqN.up (by decide)
theorem z_krv {I : e_I} {x y : Int32} : s_eqN [f_a_reversibles] I (s_krv I x y) := by
  unfold s_krv
  split
  · exact s_eqN.up (by decide)
  · exact s_eqN.rfl'
theorem s_eqN.C {T : List Nat} {I I' : e_I} (e : s_eqN T I I') (hT : v_dj (f_l_size :: s_cs) T = true) : s_eqC I I' := ⟨fun l _ => by rw [e f_l_size (v_dj.o hT (by decide))], fun F hF i => by rw [e F (v_dj.o hT (List.contains_iff_mem.mpr (List.mem_cons_of_mem _ hF)))]⟩
theorem s_eqN.T {T : List Nat} {I I' : e_I} (e : s_eqN T I I') (hT : v_dj [f_tsize, f_entries] T = true) : s_eqT I I' := ⟨by rw [e f_tsize (v_dj.o hT (by decide))], fun i => by rw [e f_entries (v_dj.o hT (by decide))]⟩
theorem z_srv {p : e_Sp} {np n s m L r j : Nat} {t : Nat → Nat} {I I' : e_I} {J J' : e_Jt} (hr : r < 4) (hj : j < 9) (h : v_Sim p 9 3 np n t s m L (I, J) (I', J')) : v_Sim p 9 3 np n t s m L (s_krv I (nI r) (nI j), J) (q_st 9 3 np (s_up I' f_m_reversible (I f_level 0 * 4 + nI r).toNatClampNeg (nI j), J')) := by
  have e : s_krv I (nI r) (nI j) = s_up I f_a_reversibles (I f_level 0 * 4 + nI r).toNatClampNeg (nI j) := if_pos (h_kj hr (by decide))
  rw [e]
  exact a_setReversible ⟨j, hj, rfl⟩ h
theorem z_in {z : Int32} (h : -50 ≤ z ∧ z ≤ 50) : v_in z (-50) 50 := ⟨Int32.le_iff_toInt_le.mp h.1, Int32.le_iff_toInt_le.mp h.2⟩
theorem v_Rg.tun {nr np j : Nat} {I : e_I} {z : Int32} (h : v_Rg nr np I) (hz : v_in z (-50) 50) : v_Rg nr np (s_up I f_m_tuning j z) := ⟨fun q hq => by
  by_cases e : q = j
  · rw [e, s_up_s]; exact hz
  · rw [s_up_i e]; exact h.1 q hq, h.2.1, h.2.2.1, h.2.2.2.1, h.2.2.2.2⟩
theorem z_qmvS {y z : Int64} (i : Nat) (a : e_I × Int32) : s_eqN [f_mk_isDrawn] a.1 (q_mvS y z i a).1 := by
  unfold q_mvS
  split
  · exact s_eqN.up (by decide)
  · exact s_eqN.rfl'
theorem z_qmt {nk : Nat} {y z : Int64} {I : e_I} : s_eqN [f_mk_isDrawn] I (q_mt nk y z I).1 := s_eqN.runP z_qmvS _ _ _
theorem v_Rg.sup {nr np j y : Nat} {I : e_I} (h : v_Rg nr np I) (hy : y ≤ 999) : v_Rg nr np (s_up I f_m_supply j (nI y)) := by
  obtain ⟨h1, h2, h3, h4, h5⟩ := h
  refine ⟨fun q hq => ?_, fun i hi => ?_, ?_, fun r hr => ⟨?_, ?_⟩, fun d hd => ?_⟩
  · rw [s_up_F (by decide)]; exact h1 q hq
  · rw [s_up_F (by decide)]; exact h2 i hi
  · rw [s_up_F (by decide)]; exact h3
  · rw [s_up_F (by decide)]; exact (h4 r hr).1
  · rw [s_up_F (by decide)]; exact (h4 r hr).2
  · by_cases e : d = j
    · rw [e, s_up_s]; exact v_in.mono (v_in.nI (by omega)) (by omega) (by omega)
    · rw [s_up_i e]; exact h5 d hd
theorem z_V.cre {I : e_I} {y : Nat} (h : z_V I) (hy : y ≤ 9) : z_V (s_up I f_crescendo 0 (nI y)) := by
  refine ⟨fun q => ?_, ⟨y, hy, s_up_s⟩, fun k hk => ?_⟩
  · rw [s_up_F (by decide)]; exact h.1 q
  · rw [s_up_F (by decide)]; exact h.2.2 k hk
theorem z_V.stg {I : e_I} {y j : Nat} (h : z_V I) (hy : y ≤ 9) : z_V (s_up I f_s_stage j (nI y)) := by
  refine ⟨fun q => ?_, ?_, fun k hk => ?_⟩
  · rw [s_up_F (by decide)]; exact h.1 q
  · rw [s_up_F (by decide)]; exact h.2.1
  · by_cases e : k = j
    · rw [e, s_up_s]; exact ⟨y, hy, rfl⟩
    · rw [s_up_i e]; exact h.2.2 k hk
theorem z_V.flt {I : e_I} {j : Nat} {z : Int32} (h : z_V I) (hz : z = 99 ∨ z = 100 ∨ z = 45) : z_V (s_up I f_p_fault j z) := by
  refine ⟨fun q => ?_, ?_, fun k hk => ?_⟩
  · by_cases e : q = j
    · rw [e, s_up_s]
      rcases hz with h | h | h
      · exact .inr (.inr (.inl h))
      · exact .inr (.inr (.inr h))
      · exact .inr (.inl h)
    · rw [s_up_i e]; exact h.1 q
  · rw [s_up_F (by decide)]; exact h.2.1
  · rw [s_up_F (by decide)]; exact h.2.2 k hk
