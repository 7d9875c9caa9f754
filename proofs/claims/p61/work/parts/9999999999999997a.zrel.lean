/-! 9999999999999997a: what stands between the law's calls (a ghost beside the class: the reference's numbers, which no heap holds) -/
theorem v_Rg.st {nk nr np : Nat} {I : e_I} {J : e_Jt} (h : v_Rg nr np I) : v_Rg nr np (q_st nk nr np (I, J)).1 := h.N (q_st_e (nk := nk) (nr := nr) (np := np) (a := (I, J))).1 (by decide)
theorem v_Rg.tcs {nk nr np k i : Nat} {a : e_I × e_Jt} (h : v_Rg nr np a.1) : v_Rg nr np (s_run (q_tc nk nr np) i k a).1 := h.N h_tcsE.1 (by decide)
/-- room, the class, the ghost -/
def z_H (T nk nr np : Nat) (p : e_Sp) (I : e_I) (J : e_Jt) (c : Nat × Nat) : Prop :=
  s_D p I nk nr ∧ v_Wd nk I ∧ (∃ a b, s_Tp p I c a b ∧ a ≤ 1000 + 400 * T ∧ b ≤ 40000 + 2500 * T) ∧ (T ≤ 500 ∧ np ≤ 42 * nr ∧ nr ≤ 3) ∧ ∃ n t s m I' J', v_Sim p nk nr np n t s m T (I, J) (I', J') ∧ v_Rg nr np I' ∧ n ≤ 600 * T ∧ m ≤ 100040 * T
/-- what the law makes and never changes -/
def z_Fl : List Nat := [f_r_lowest, f_r_delay, f_r_rest, f_r_power, f_k_kind, f_a_owners, f_a_openings]
def z_F (p : e_Sp) (I : e_I) : Prop :=
  (∀ r, r < 3 → ∃ lo dl rs pw, I f_r_lowest r = nI lo ∧ I f_r_delay r = nI dl ∧ I f_r_rest r = nI rs ∧ I f_r_power r = nI pw ∧ (36 ≤ lo ∧ lo ≤ 44 ∧ 49 ≤ lo + p.2.2.1 T_PARR r ∧ lo + p.2.2.1 T_PARR r ≤ 78) ∧ dl ≤ 2 ∧ rs ≤ 2 ∧ pw ≤ 90) ∧
  (∀ k, k < 9 → (I f_k_kind k = 115 ↔ 3 ≤ k ∧ k < 6)) ∧ (∀ v, v < 4 → I f_a_owners v = -1) ∧ ∀ d, d < 3 → ∃ o, o ≤ 10 ∧ I f_a_openings d = nI o
/-- what calls change -/
def z_Vl : List Nat := [f_p_fault, f_crescendo, f_s_stage]
def z_V (I : e_I) : Prop := (∀ q, I f_p_fault q = 0 ∨ I f_p_fault q = 45 ∨ I f_p_fault q = 99 ∨ I f_p_fault q = 100) ∧ (∃ c, c ≤ 9 ∧ I f_crescendo 0 = nI c) ∧ ∀ k, k < 9 → ∃ s, s ≤ 9 ∧ I f_s_stage k = nI s
theorem z_F.N {p p' : e_Sp} {I I' : e_I} {T : List Nat} (h : z_F p I) (hx : p'.2.2.1 T_PARR = p.2.2.1 T_PARR) (e : s_eqN T I I') (hT : v_dj z_Fl T = true) : z_F p' I' := by
  obtain ⟨h1, h2, h3, h4⟩ := h
  refine ⟨fun r hr => ?_, fun k hk => ?_, fun v hv => ?_, fun d hd => ?_⟩
  · rw [e f_r_lowest (v_dj.o hT (by decide)), e f_r_delay (v_dj.o hT (by decide)), e f_r_rest (v_dj.o hT (by decide)), e f_r_power (v_dj.o hT (by decide)), hx]
    exact h1 r hr
  · rw [e f_k_kind (v_dj.o hT (by decide))]; exact h2 k hk
  · rw [e f_a_owners (v_dj.o hT (by decide))]; exact h3 v hv
  · rw [e f_a_openings (v_dj.o hT (by decide))]; exact h4 d hd
theorem z_V.N {I I' : e_I} {T : List Nat} (h : z_V I) (e : s_eqN T I I') (hT : v_dj z_Vl T = true) : z_V I' := by
  obtain ⟨h1, h2, h3⟩ := h
  refine ⟨fun q => ?_, ?_, fun k hk => ?_⟩
  · rw [e f_p_fault (v_dj.o hT (by decide))]; exact h1 q
  · rw [e f_crescendo (v_dj.o hT (by decide))]; exact h2
  · rw [e f_s_stage (v_dj.o hT (by decide))]; exact h3 k hk
/-- all that holds between calls -/
def z_O (T ax : Nat) (S : e_SS) : Prop := (∃ np, z_H T 9 3 np S.1 S.2.1 S.2.2.1 S.2.2.2.1) ∧ z_F S.1 S.2.1 ∧ z_V S.2.1 ∧ S.1.1 T_HALL 0 = ax
theorem s_xt.HALL {p p' : e_Sp} (x : s_xt p p') : p'.1 T_HALL 0 = p.1 T_HALL 0 := by rw [(x.1 T_HALL rfl).1]
theorem s_xt.PARR {p p' : e_Sp} (x : s_xt p p') : p'.2.2.1 T_PARR = p.2.2.1 T_PARR := (x.1 T_PARR rfl).2.2
/-- a call has settled -/
theorem z_st {T ax np : Nat} {p p' : e_Sp} {I A B I' : e_I} {J J' : e_Jt} {c c' : Nat × Nat} {w : e_Rw1} {a b n n' s m : Nat} {t t' : Nat → Nat} {TC TB : List Nat} (hT : T < 500) (hb : a ≤ 1000 + 400 * T ∧ b ≤ 40000 + 2500 * T) (hnp : np ≤ 42 * 3 ∧ 3 ≤ 3) (hF : z_F p I) (hV : z_V I) (hax : p.1 T_HALL 0 = ax) (hx : s_xt p p') (hD : s_D p' (s_stl p 9 3 (A, J)).1 9 3) (hTp : s_Tp p' (s_stl p 9 3 (A, J)).1 c' a b) (e : s_eqN TC I A) (hTC : v_dj (z_Vl ++ z_Fl) TC = true)
    (hR : v_Rg 3 np I') (eB : s_eqN TB I' B) (hTB : v_dj v_RgM TB = true) (hS : v_Sim p 9 3 np n' t' s m T (s_stl p 9 3 (A, J)) (q_st 9 3 np (B, J'))) (hn : n ≤ 600 * T) (hn' : n' ≤ n + 600) (hm : m ≤ 100040 * T) : z_O (T + 1) ax (p', (s_stl p 9 3 (A, J)).1, (s_stl p 9 3 (A, J)).2, c', w) := by
  have e2 : s_eqN s_tST A (s_stl p 9 3 (A, J)).1 := s_eqN.stl (a := (A, J))
  refine ⟨⟨np, hD, v_Wd.stl, ⟨a, b, hTp, by omega, by omega⟩, ⟨by omega, hnp⟩, n', t', s, m, (q_st 9 3 np (B, J')).1, (q_st 9 3 np (B, J')).2, ((hS.L (by omega)).p hx.2.2.1 hx.PARR), (hR.N eB hTB).st, by omega, by omega⟩, ?_, ?_, hx.HALL.trans hax⟩
  · exact (hF.N hx.PARR e (h_sub hTC (by decide))).N rfl e2 (by decide)
  · exact (hV.N e (h_sub hTC (by decide))).N e2 (by decide)
