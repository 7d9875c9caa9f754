/-! 999999999994: one more rank, both sides -/
def v_pF : List Nat := [f_p_found, f_p_isHeld, f_p_isWanted, f_p_changedAt, f_p_isOpened, f_p_closedAt, f_p_fault, f_p_tuning, f_p_isSpeaking, f_p_begins, f_p_ends]
def v_rF : List Nat := [f_r_lowest, f_r_division, f_r_use, f_r_delay, f_r_rest, f_r_power, f_r_heatNumber]
theorem v_pkF {F : Nat} (h : v_pF.contains F = false) : (e_FI F).1 ≠ T_PIPE := by
  by_cases c : F < e_NI
  · have key : ∀ F, F < e_NI → v_pF.contains F = false → (e_FI F).1 ≠ T_PIPE := by decide +kernel
    exact key F c h
  · have e : e_FI F = (0, 0, 1) := by
      unfold e_FI
      rw [List.getElem?_eq_none (by unfold e_NI at c; omega)]
      rfl
    rw [e]
    decide
theorem v_pkN {I : e_I} {bs n : Nat} : s_eqN v_pF I (s_pkI I bs n) := fun F hF => s_pkI_F (v_pkF hF)
theorem v_pkv {I : e_I} {bs n q F : Nat} (h : v_pF.contains F = true) (hq : ¬ (bs ≤ q ∧ q < bs + n)) : s_pkI I bs n F q = I F q := if_neg (fun z => hq z.2)
theorem v_pkn {I : e_I} {bs n q F : Nat} (h : v_pF.contains F = true) (hq : bs ≤ q ∧ q < bs + n) : s_pkI I bs n F q = (if F = f_p_closedAt then -5 else if F = f_p_fault then 45 else 0) := by
  refine s_pkI_i ?_ hq
  have key : ∀ F, F ∈ v_pF → (e_FI F).1 = T_PIPE := by decide +kernel
  exact key F (List.contains_iff_mem.mp h)
theorem v_rkN {I : e_I} {r : Nat} {a b c d e f : Int32} : s_eqN v_rF I (s_rkI I r a b c d e f) := ((((((s_eqN.up (by decide)).trans (s_eqN.up (by decide))).trans (s_eqN.up (by decide))).trans (s_eqN.up (by decide))).trans (s_eqN.up (by decide))).trans (s_eqN.up (by decide))).trans (s_eqN.up (by decide))
theorem v_rki {I : e_I} {r k F : Nat} {a b c d e f : Int32} (h : k ≠ r) : s_rkI I r a b c d e f F k = I F k := by
  unfold s_rkI
  rw [s_up_i h, s_up_i h, s_up_i h, s_up_i h, s_up_i h, s_up_i h, s_up_i h]
theorem v_rkv {I : e_I} {r : Nat} {a b c d e f : Int32} : s_rkI I r a b c d e f f_r_lowest r = a ∧ s_rkI I r a b c d e f f_r_division r = b ∧ s_rkI I r a b c d e f f_r_use r = c ∧ s_rkI I r a b c d e f f_r_delay r = d ∧ s_rkI I r a b c d e f f_r_rest r = e ∧ s_rkI I r a b c d e f f_r_power r = f ∧ s_rkI I r a b c d e f f_r_heatNumber r = 0 := by
  unfold s_rkI
  refine ⟨?_, ?_, ?_, ?_, ?_, ?_, ?_⟩
  · rw [s_up_F (by decide), s_up_F (by decide), s_up_F (by decide), s_up_F (by decide), s_up_F (by decide), s_up_F (by decide), s_up_s]
  · rw [s_up_F (by decide), s_up_F (by decide), s_up_F (by decide), s_up_F (by decide), s_up_F (by decide), s_up_s]
  · rw [s_up_F (by decide), s_up_F (by decide), s_up_F (by decide), s_up_F (by decide), s_up_s]
  · rw [s_up_F (by decide), s_up_F (by decide), s_up_F (by decide), s_up_s]
  · rw [s_up_F (by decide), s_up_F (by decide), s_up_s]
  · rw [s_up_F (by decide), s_up_s]
  · rw [s_up_s]
/-- pipes of the second implementation that no rank has yet -/
def v_frZ : List Nat := [f_m_isHeld, f_m_isWanted, f_m_isCalled, f_m_isOpen, f_m_speaks, f_m_since, f_m_begun, f_m_tuning]
def v_Fr (np : Nat) (I' : e_I) : Prop := ∀ q, np ≤ q → q < 1280 → (∀ F, v_frZ.contains F = true → I' F q = 0) ∧ I' f_m_closedSince q = -1000000 ∧ I' f_m_fault q = 45
/-- what a new rank leaves as it was, and what is new: A and B -/
def v_rkA (p : e_Sp) (I : e_I) (nr np lo m : Nat) (x3 x4 x5 x6 x7 : Int32) : e_I := s_adI (s_rkI (s_pkI I np (m + 1)) nr (nI lo) x4 x3 x5 x6 x7) 0 nr
theorem v_rkAN {p : e_Sp} {I : e_I} {nr np lo m : Nat} {x3 x4 x5 x6 x7 : Int32} : s_eqN (f_l_modCount :: f_l_size :: (v_pF ++ v_rF)) I (v_rkA p I nr np lo m x3 x4 x5 x6 x7) := ((v_pkN.mono (by decide)).trans (v_rkN.mono (by decide))).trans (v_adN.mono (by decide))
theorem v_adF {I : e_I} {l n F : Nat} (h : F ≠ f_l_size ∧ F ≠ f_l_modCount) (i : Nat) : s_adI I l n F i = I F i := by
  unfold s_adI
  rw [s_up_F h.1, s_up_F h.2]
theorem v_rkAr {p : e_Sp} {I : e_I} {nr np lo m r F : Nat} {x3 x4 x5 x6 x7 : Int32} (hF : v_rF.contains F = true) (h : r ≠ nr) : v_rkA p I nr np lo m x3 x4 x5 x6 x7 F r = I F r := by
  unfold v_rkA
  have n1 : F ≠ f_l_size ∧ F ≠ f_l_modCount := ⟨fun z => by rw [z] at hF; exact absurd hF (by decide), fun z => by rw [z] at hF; exact absurd hF (by decide)⟩
  rw [v_adF n1, v_rki h, v_pkN F (v_dj.o (show v_dj v_rF v_pF = true by decide) hF)]
theorem v_rkAp {p : e_Sp} {I : e_I} {nr np lo m q F : Nat} {x3 x4 x5 x6 x7 : Int32} (hF : v_pF.contains F = true) (h : q < np) : v_rkA p I nr np lo m x3 x4 x5 x6 x7 F q = I F q := by
  unfold v_rkA
  have n1 : F ≠ f_l_size ∧ F ≠ f_l_modCount := ⟨fun z => by rw [z] at hF; exact absurd hF (by decide), fun z => by rw [z] at hF; exact absurd hF (by decide)⟩
  rw [v_adF n1, v_rkN F (v_dj.o (show v_dj v_pF v_rF = true by decide) hF), v_pkv hF (by omega)]
theorem v_rkAn {p : e_Sp} {I : e_I} {nr np lo m q F : Nat} {x3 x4 x5 x6 x7 : Int32} (hF : v_pF.contains F = true) (h : np ≤ q ∧ q < np + (m + 1)) : v_rkA p I nr np lo m x3 x4 x5 x6 x7 F q = (if F = f_p_closedAt then -5 else if F = f_p_fault then 45 else 0) := by
  unfold v_rkA
  have n1 : F ≠ f_l_size ∧ F ≠ f_l_modCount := ⟨fun z => by rw [z] at hF; exact absurd hF (by decide), fun z => by rw [z] at hF; exact absurd hF (by decide)⟩
  rw [v_adF n1, v_rkN F (v_dj.o (show v_dj v_pF v_rF = true by decide) hF), v_pkn hF h]
theorem v_rkAv {p : e_Sp} {I : e_I} {nr np lo m : Nat} {x3 x4 x5 x6 x7 : Int32} : v_rkA p I nr np lo m x3 x4 x5 x6 x7 f_r_lowest nr = nI lo ∧ v_rkA p I nr np lo m x3 x4 x5 x6 x7 f_r_division nr = x4 ∧ v_rkA p I nr np lo m x3 x4 x5 x6 x7 f_r_use nr = x3 ∧ v_rkA p I nr np lo m x3 x4 x5 x6 x7 f_r_delay nr = x5 ∧ v_rkA p I nr np lo m x3 x4 x5 x6 x7 f_r_rest nr = x6 ∧ v_rkA p I nr np lo m x3 x4 x5 x6 x7 f_r_power nr = x7 ∧ v_rkA p I nr np lo m x3 x4 x5 x6 x7 f_r_heatNumber nr = 0 := by
  unfold v_rkA
  have k : ∀ F, v_rF.contains F = true → ∀ I i, s_adI I 0 nr F i = I F i := fun F hF I i => v_adF ⟨fun z => by rw [z] at hF; exact absurd hF (by decide), fun z => by rw [z] at hF; exact absurd hF (by decide)⟩ i
  rw [k _ (by decide), k _ (by decide), k _ (by decide), k _ (by decide), k _ (by decide), k _ (by decide), k _ (by decide)]
  exact v_rkv
def v_mrF : List Nat := [f_mr_lowest, f_mr_highest, f_mr_wind, f_mr_division, f_mr_delay, f_mr_rest, f_mr_power, f_mr_base, f_mr_heat]
theorem v_rkBr {I : e_I} {nr np lo m r F : Nat} {x3 x4 x5 x6 x7 : Int32} (hF : v_mrF.contains F = true) (h : r ≠ nr) : q_rkI I nr np lo m x3 x4 x5 x6 x7 F r = I F r := by
  rw [q_rkI_mr ⟨fun z => by rw [z] at hF; exact absurd hF (by decide), fun z => by rw [z] at hF; exact absurd hF (by decide), fun z => by rw [z] at hF; exact absurd hF (by decide), fun z => by rw [z] at hF; exact absurd hF (by decide)⟩]
  exact s_IMRANK_i h
theorem v_rkBo {I : e_I} {nr np lo m q : Nat} {x3 x4 x5 x6 x7 : Int32} : q_rkI I nr np lo m x3 x4 x5 x6 x7 f_m_rankOf q = if np ≤ q ∧ q < np + (m + 1) then nI nr else I f_m_rankOf q := by
  unfold q_rkI
  rw [v_adF ⟨by decide, by decide⟩, s_up_F (by decide)]
  unfold q_rkf
  by_cases c : np ≤ q ∧ q < np + (m + 1)
  · rw [if_pos ⟨rfl, c⟩, if_pos c]
  · rw [if_neg (fun z => c z.2), if_neg c]
    unfold s_IMRANK
    rw [s_up_F (by decide), s_up_F (by decide), s_up_F (by decide), s_up_F (by decide), s_up_F (by decide), s_up_F (by decide), s_up_F (by decide), s_up_F (by decide), s_up_F (by decide)]
theorem v_rkBv {I : e_I} {nr np lo m : Nat} {x3 x4 x5 x6 x7 : Int32} : q_rkI I nr np lo m x3 x4 x5 x6 x7 f_mr_lowest nr = nI lo ∧ q_rkI I nr np lo m x3 x4 x5 x6 x7 f_mr_highest nr = nI (lo + m) ∧ q_rkI I nr np lo m x3 x4 x5 x6 x7 f_mr_wind nr = x3 ∧ q_rkI I nr np lo m x3 x4 x5 x6 x7 f_mr_division nr = x4 ∧ q_rkI I nr np lo m x3 x4 x5 x6 x7 f_mr_delay nr = x5 ∧ q_rkI I nr np lo m x3 x4 x5 x6 x7 f_mr_rest nr = x6 ∧ q_rkI I nr np lo m x3 x4 x5 x6 x7 f_mr_power nr = x7 ∧ q_rkI I nr np lo m x3 x4 x5 x6 x7 f_mr_base nr = nI np ∧ q_rkI I nr np lo m x3 x4 x5 x6 x7 f_mr_heat nr = 0 := by
  have k : ∀ F, v_mrF.contains F = true → q_rkI I nr np lo m x3 x4 x5 x6 x7 F = s_IMRANK I nr (nI lo) (nI (lo + m)) x3 x4 x5 x6 x7 (nI np) 0 F := fun F hF => q_rkI_mr ⟨fun z => by rw [z] at hF; exact absurd hF (by decide), fun z => by rw [z] at hF; exact absurd hF (by decide), fun z => by rw [z] at hF; exact absurd hF (by decide), fun z => by rw [z] at hF; exact absurd hF (by decide)⟩
  rw [k _ (by decide), k _ (by decide), k _ (by decide), k _ (by decide), k _ (by decide), k _ (by decide), k _ (by decide), k _ (by decide), k _ (by decide)]
  unfold s_IMRANK
  refine ⟨?_, ?_, ?_, ?_, ?_, ?_, ?_, ?_, ?_⟩
  · rw [s_up_F (by decide), s_up_F (by decide), s_up_F (by decide), s_up_F (by decide), s_up_F (by decide), s_up_F (by decide), s_up_F (by decide), s_up_F (by decide), s_up_s]
  · rw [s_up_F (by decide), s_up_F (by decide), s_up_F (by decide), s_up_F (by decide), s_up_F (by decide), s_up_F (by decide), s_up_F (by decide), s_up_s]
  · rw [s_up_F (by decide), s_up_F (by decide), s_up_F (by decide), s_up_F (by decide), s_up_F (by decide), s_up_F (by decide), s_up_s]
  · rw [s_up_F (by decide), s_up_F (by decide), s_up_F (by decide), s_up_F (by decide), s_up_F (by decide), s_up_s]
  · rw [s_up_F (by decide), s_up_F (by decide), s_up_F (by decide), s_up_F (by decide), s_up_s]
  · rw [s_up_F (by decide), s_up_F (by decide), s_up_F (by decide), s_up_s]
  · rw [s_up_F (by decide), s_up_F (by decide), s_up_s]
  · rw [s_up_F (by decide), s_up_s]
  · rw [s_up_s]
/-- the shape grows -/
def v_Pg (p p1 : e_Sp) (nr np m : Nat) : Prop := (∀ r, r < nr → p1.2.2.1 T_PARR r = p.2.2.1 T_PARR r ∧ p1.2.2.2.2 r = p.2.2.2.2 r) ∧ p1.2.2.1 T_PARR nr = m + 1 ∧ p1.2.2.2.2 nr = np
theorem v_Sh.np {p : e_Sp} {I I' : e_I} {nr np : Nat} (h : v_Sh p I I' nr np) : np ≤ 128 * nr := by
  obtain ⟨⟨h0, h1, h2⟩, -, h3⟩ := h
  have hl : ∀ r, r < nr → p.2.2.1 T_PARR r ≤ 128 := fun r hr => by
    obtain ⟨lo, dv, _, g2, _⟩ := h3 r hr
    omega
  have key : ∀ r, r < nr → p.2.2.2.2 r ≤ 128 * r := by
    intro r
    induction r with
    | zero => intro _; omega
    | succ r ih =>
      intro hr
      have := ih (by omega)
      have e := h1 r hr
      have := hl r (by omega)
      omega
  rw [h2]
  by_cases z : nr = 0
  · rw [if_pos z]; omega
  · rw [if_neg z]
    have := key (nr - 1) (by omega)
    have := hl (nr - 1) (by omega)
    omega
theorem v_Sh.grow {p p1 : e_Sp} {I I' : e_I} {nr np lo m dv : Nat} {x3 x5 x6 x7 : Int32} (h : v_Sh p I I' nr np) (hg : v_Pg p p1 nr np m) (h10 : nr < 10) (hlo : lo + m ≤ 127) (hdv : dv < 3) (h6 : x6 ≤ 5) : v_Sh p1 (v_rkA p I nr np lo m x3 (nI dv) x5 x6 x7) (q_rkI I' nr np lo m x3 (nI dv) x5 x6 x7) (nr + 1) (np + (m + 1)) := by
  have hnp := h.np
  have hle : ∀ {r}, r < nr → p.2.2.2.2 r + p.2.2.1 T_PARR r ≤ np := fun hr => h.le hr
  obtain ⟨⟨h0, h1, h2⟩, h3, h4⟩ := h
  obtain ⟨g1, g2, g3⟩ := hg
  refine ⟨⟨?_, ?_, ?_⟩, ⟨by omega, by omega⟩, ?_⟩
  · by_cases z : nr = 0
    · rw [z] at g3
      rw [if_pos z] at h2
      rw [g3, h2]
    · rw [(g1 0 (by omega)).2]; exact h0
  · intro r hr
    by_cases z : r + 1 = nr
    · rw [z, g3, h2, if_neg (by omega), (g1 r (by omega)).1, (g1 r (by omega)).2, show nr - 1 = r by omega]
    · rw [(g1 (r + 1) (by omega)).2, (g1 r (by omega)).1, (g1 r (by omega)).2]
      exact h1 r (by omega)
  · rw [if_neg (by omega), Nat.add_sub_cancel, g2, g3]
  · intro r hr
    obtain ⟨a1, a2, a3, a4, a5, a6, a7⟩ := v_rkAv (p := p) (I := I) (nr := nr) (np := np) (lo := lo) (m := m) (x3 := x3) (x4 := nI dv) (x5 := x5) (x6 := x6) (x7 := x7)
    obtain ⟨b1, b2, b3, b4, b5, b6, b7, b8, b9⟩ := v_rkBv (I := I') (nr := nr) (np := np) (lo := lo) (m := m) (x3 := x3) (x4 := nI dv) (x5 := x5) (x6 := x6) (x7 := x7)
    by_cases z : r = nr
    · subst z
      refine ⟨lo, dv, by omega, by omega, hdv, a1, b1, ?_, ?_, a2, b4, ⟨by rw [a3, b3], by rw [a4, b5], by rw [a5, b6], by rw [a6, b7], by rw [a7, b9], by rw [b6]; exact h6⟩, ?_⟩
      · rw [b2, g2]; congr 1
      · rw [b8, g3]
      · intro j hj
        rw [g2] at hj
        rw [g3, v_rkBo, if_pos (by omega)]
    · have hr' : r < nr := by omega
      obtain ⟨lo', dv', c1, c2, c3, c4, c5, c6, c7, c8, c9, ⟨d1, d2, d3, d4, d5, d6⟩, d7⟩ := h4 r hr'
      have hb := hle hr'
      refine ⟨lo', dv', ?_, ?_, c3, ?_, ?_, ?_, ?_, ?_, ?_, ⟨?_, ?_, ?_, ?_, ?_, ?_⟩, ?_⟩
      · rw [(g1 r hr').1]; exact c1
      · rw [(g1 r hr').1]; exact c2
      · rw [v_rkAr (by decide) z]; exact c4
      · rw [v_rkBr (by decide) z]; exact c5
      · rw [v_rkBr (by decide) z, (g1 r hr').1]; exact c6
      · rw [v_rkBr (by decide) z, (g1 r hr').2]; exact c7
      · rw [v_rkAr (by decide) z]; exact c8
      · rw [v_rkBr (by decide) z]; exact c9
      · rw [v_rkAr (by decide) z, v_rkBr (by decide) z]; exact d1
      · rw [v_rkAr (by decide) z, v_rkBr (by decide) z]; exact d2
      · rw [v_rkAr (by decide) z, v_rkBr (by decide) z]; exact d3
      · rw [v_rkAr (by decide) z, v_rkBr (by decide) z]; exact d4
      · rw [v_rkAr (by decide) z, v_rkBr (by decide) z]; exact d5
      · rw [v_rkBr (by decide) z]; exact d6
      · intro j hj
        rw [(g1 r hr').1] at hj
        rw [(g1 r hr').2, v_rkBo, if_neg (by omega)]
        exact d7 j hj
theorem v_rkP1 {p : e_Sp} {I I' : e_I} {nr np lo m : Nat} {x3 x4 x5 x6 x7 : Int32} (h : v_Pp np I I') (hf : v_Fr np I') (hle : np + (m + 1) ≤ 1280) : v_Pp (np + (m + 1)) (v_rkA p I nr np lo m x3 x4 x5 x6 x7) (q_rkI I' nr np lo m x3 x4 x5 x6 x7) := by
  intro q hq
  have e' : s_eqN q_rF I' (q_rkI I' nr np lo m x3 x4 x5 x6 x7) := q_rkI_e
  unfold v_P1
  rw [e' f_m_isHeld (by decide), e' f_m_isWanted (by decide), e' f_m_since (by decide), e' f_m_isOpen (by decide), e' f_m_closedSince (by decide), e' f_m_fault (by decide)]
  by_cases c : q < np
  · rw [v_rkAp (by decide) c, v_rkAp (by decide) c, v_rkAp (by decide) c, v_rkAp (by decide) c, v_rkAp (by decide) c, v_rkAp (by decide) c]
    exact h q c
  · obtain ⟨z, z1, z2⟩ := hf q (by omega) (by omega)
    have hn : np ≤ q ∧ q < np + (m + 1) := ⟨by omega, hq⟩
    rw [v_rkAn (by decide) hn, v_rkAn (by decide) hn, v_rkAn (by decide) hn, v_rkAn (by decide) hn, v_rkAn (by decide) hn, v_rkAn (by decide) hn, z f_m_isHeld (by decide), z f_m_isWanted (by decide), z f_m_since (by decide), z f_m_isOpen (by decide), z1, z2]
    exact ⟨⟨rfl, .inl rfl⟩, ⟨rfl, .inl rfl⟩, rfl, ⟨rfl, .inl rfl⟩, .inr ⟨rfl, rfl⟩, rfl⟩
theorem v_rkS1 {p : e_Sp} {I I' : e_I} {nr np lo m : Nat} {x3 x4 x5 x6 x7 : Int32} (h : ∀ q, q < np → v_S1 I I' q) (hf : v_Fr np I') (hle : np + (m + 1) ≤ 1280) : ∀ q, q < np + (m + 1) → v_S1 (v_rkA p I nr np lo m x3 x4 x5 x6 x7) (q_rkI I' nr np lo m x3 x4 x5 x6 x7) q := by
  intro q hq
  have e' : s_eqN q_rF I' (q_rkI I' nr np lo m x3 x4 x5 x6 x7) := q_rkI_e
  unfold v_S1
  rw [e' f_m_speaks (by decide), e' f_m_begun (by decide)]
  by_cases c : q < np
  · rw [v_rkAp (by decide) c, v_rkAp (by decide) c, v_rkAp (by decide) c]
    exact h q c
  · obtain ⟨z, z1, z2⟩ := hf q (by omega) (by omega)
    have hn : np ≤ q ∧ q < np + (m + 1) := ⟨by omega, hq⟩
    rw [v_rkAn (by decide) hn, v_rkAn (by decide) hn, v_rkAn (by decide) hn, z f_m_speaks (by decide), z f_m_begun (by decide)]
    exact ⟨⟨rfl, .inl rfl⟩, rfl, rfl⟩
theorem v_rkTa {p p1 : e_Sp} {I I' : e_I} {nr np lo m n s m9 : Nat} {t : Nat → Nat} {x3 x4 x5 x6 x7 : Int32} (h : v_Ta p nr n t s m9 I I') (hg : v_Pg p p1 nr np m) : v_Ta p1 (nr + 1) n t s m9 (v_rkA p I nr np lo m x3 x4 x5 x6 x7) (q_rkI I' nr np lo m x3 x4 x5 x6 x7) := by
  have e : s_eqN (f_l_modCount :: f_l_size :: (v_pF ++ v_rF)) I (v_rkA p I nr np lo m x3 x4 x5 x6 x7) := v_rkAN
  have e' : s_eqN q_rF I' (q_rkI I' nr np lo m x3 x4 x5 x6 x7) := q_rkI_e
  obtain ⟨⟨a1, a2, a3, a4, a5, a6⟩, b1, b2, b3, b4⟩ := h
  unfold v_Ta
  rw [e f_tsize (by decide), e f_startedAt (by decide), e' f_m_tick (by decide), e' f_mt_tick (by decide), e' f_mt_is (by decide), q_rkI_l (by decide)]
  refine ⟨⟨a1, a2, a3, a4, a5, a6⟩, b1, b2, b3, fun j hj => ?_⟩
  obtain ⟨cd, h1, h2⟩ := b4 j hj
  unfold v_En
  rw [e f_entries (by decide), e f_startedAt (by decide), e' f_mt_tick (by decide), e' f_mt_is (by decide), e' f_m_kindKept (by decide), e' f_mt_division (by decide), e' f_mt_at (by decide)]
  refine ⟨cd, h1, h2.imp (fun ⟨c1, c2, r, i, hr, hi, c3, c4⟩ => ⟨c1, c2, r, i, by omega, by rw [(hg.1 r hr).1]; exact hi, by rw [(hg.1 r hr).2]; exact c3, by rw [v_rkAr (by decide) (by omega)]; exact c4⟩) id⟩
theorem v_Rel.rank {p p1 : e_Sp} {nk nr np n s m9 lo m dv : Nat} {t : Nat → Nat} {I I' : e_I} {J J' : e_Jt} {x3 x5 x6 x7 : Int32} (h : v_Rel p nk nr np n t s m9 I I' J J') (hf : v_Fr np I') (hg : v_Pg p p1 nr np m) (h10 : nr < 10) (hlo : lo + m ≤ 127) (hdv : dv < 3) (h6 : x6 ≤ 5) : v_Rel p1 nk (nr + 1) (np + (m + 1)) n t s m9 (v_rkA p I nr np lo m x3 (nI dv) x5 x6 x7) (q_rkI I' nr np lo m x3 (nI dv) x5 x6 x7) J J' := by
  obtain ⟨⟨hS, hK, hy⟩, ⟨hr, ho, hz, hq, hrs⟩, ⟨hp, hT, hrec, hsu⟩, h1, hc⟩ := h
  have hS1 := hS.grow (x3 := x3) (x5 := x5) (x7 := x7) hg h10 hlo hdv h6
  have hle := hS1.2.1.2
  have e : s_eqN (f_l_modCount :: f_l_size :: (v_pF ++ v_rF)) I (v_rkA p I nr np lo m x3 (nI dv) x5 x6 x7) := v_rkAN
  have e' : s_eqN q_rF I' (q_rkI I' nr np lo m x3 (nI dv) x5 x6 x7) := q_rkI_e
  refine ⟨⟨hS1, hK.N e e' (by decide) (by decide), hy.N e e' (by decide) (by decide)⟩, ⟨hr.N e e' (by decide) (by decide), ho.N e e' (by decide) (by decide), ?_, ?_, ?_⟩, ⟨v_rkP1 hp hf hle, v_rkTa hT hg, ?_, hsu.N e e' (by decide) (by decide)⟩, v_rkS1 h1 hf hle, ?_, hc.2⟩
  · unfold v_Rz; rw [e' _ (by decide), e' _ (by decide)]; exact hz
  · unfold q_S; rw [e' _ (by decide), e' _ (by decide), e' _ (by decide)]; exact hq
  · unfold v_Rs; rw [e' _ (by decide), e' _ (by decide), e' _ (by decide)]; exact hrs
  · rw [e _ (by decide), e' _ (by decide)]; exact hrec
  · rw [e _ (by decide)]; exact hc.1
/-- a rank more -/
theorem a_rank {p p1 : e_Sp} {nk nr np n s m9 L lo m dv : Nat} {t : Nat → Nat} {I I' : e_I} {J J' : e_Jt} {x3 x5 x6 x7 : Int32} (h : v_Sim p nk nr np n t s m9 L (I, J) (I', J')) (hf : v_Fr np I') (hg : v_Pg p p1 nr np m) (h10 : nr < 10) (hlo : lo + m ≤ 127) (hdv : dv < 3) (h6 : x6 ≤ 5) (hL : L ≤ 2000) (hn : n + 1280 ≤ 1000000) : ∃ n' t', n' ≤ n + (np + (m + 1)) ∧ (¬ I' f_m_recording 0 = 114 → n' = n) ∧ v_Sim p1 nk (nr + 1) (np + (m + 1)) n' t' s m9 L (s_stl p1 nk (nr + 1) (v_rkA p I nr np lo m x3 (nI dv) x5 x6 x7, J)) (q_st nk (nr + 1) (np + (m + 1)) (q_rkI I' nr np lo m x3 (nI dv) x5 x6 x7, J')) := by
  obtain ⟨⟨hR, hF, hX, hK⟩, z1, z2, z3, z4, z5, z6⟩ := h
  dsimp only at z1 z2 z3 z4 z5 z6 hR hF hX hK
  have hC := v_Cw.of hX z1.2.1
  have hR1 := hR.rank (x3 := x3) (x5 := x5) (x7 := x7) hf hg h10 hlo hdv h6
  have hle := hR1.1.1.2.1.2
  have e : s_eqN (f_l_modCount :: f_l_size :: (v_pF ++ v_rF)) I (v_rkA p I nr np lo m x3 (nI dv) x5 x6 x7) := v_rkAN
  have e' : s_eqN q_rF I' (q_rkI I' nr np lo m x3 (nI dv) x5 x6 x7) := q_rkI_e
  have er : q_rkI I' nr np lo m x3 (nI dv) x5 x6 x7 f_m_recording 0 = I' f_m_recording 0 := by rw [e' _ (by decide)]
  have hC1 : v_Cw (np + (m + 1)) (q_rkI I' nr np lo m x3 (nI dv) x5 x6 x7) := fun q hq => by
    rw [e' _ (by decide), e' _ (by decide)]
    by_cases c : q < np
    · exact hC q c
    · have z := (hf q (by omega) (by omega)).1
      rw [z _ (by decide), z _ (by decide)]
  have y1 : v_Z1 nk (np + (m + 1)) (v_rkA p I nr np lo m x3 (nI dv) x5 x6 x7) (q_rkI I' nr np lo m x3 (nI dv) x5 x6 x7) := by
    refine ⟨fun q hq => ?_, fun q hq => ?_, ?_, z1.2.2.2.1.N e e' (by decide) (by decide), z1.2.2.2.2.1.N e e' (by decide) (by decide), z1.2.2.2.2.2.1.N e e' (by decide) (by decide), z1.2.2.2.2.2.2.N e e' (by decide) (by decide)⟩
    · rw [e' _ (by decide)]
      by_cases c : q < np
      · rw [v_rkAp (by decide) c]; exact z1.1 q c
      · rw [v_rkAn (by decide) ⟨by omega, hq⟩, (hf q (by omega) (by omega)).1 _ (by decide)]; rfl
    · rw [e' _ (by decide)]
      by_cases c : q < np
      · exact z1.2.1 q c
      · exact (hf q (by omega) (by omega)).1 _ (by decide)
    · rw [e _ (by decide), e' _ (by decide)]; exact z1.2.2.1
  have bo : ∀ F, v_pF.contains F = true → F ≠ f_p_closedAt → F ≠ f_p_fault → q_bo I F → q_bo (v_rkA p I nr np lo m x3 (nI dv) x5 x6 x7) F := by
    intro F hF h1 h2 hb i
    by_cases c : np ≤ i ∧ i < np + (m + 1)
    · rw [v_rkAn hF c, if_neg h1, if_neg h2]; exact .inl rfl
    · have : v_rkA p I nr np lo m x3 (nI dv) x5 x6 x7 F i = I F i := by
        unfold v_rkA
        rw [v_adF ⟨fun z => by rw [z] at hF; exact absurd hF (by decide), fun z => by rw [z] at hF; exact absurd hF (by decide)⟩, v_rkN F (v_dj.o (show v_dj v_pF v_rF = true by decide) hF), v_pkv hF c]
      rw [this]; exact hb i
  have y5 : v_Z5 (v_rkA p I nr np lo m x3 (nI dv) x5 x6 x7) (q_rkI I' nr np lo m x3 (nI dv) x5 x6 x7) := by
    obtain ⟨g1, g2, g3, g4, g5, g6⟩ := z5
    refine ⟨fun F hF => ?_, fun F hF => v_bo_eq (g2 F hF) (e' F (v_dj.o (show v_dj v_bM q_rF = true by decide) hF)), ?_, ?_, ?_, ?_⟩
    · have hF' : F = f_p_isOpened ∨ F = f_p_isSpeaking ∨ F = f_isTutti ∨ F = f_k_isOut ∨ F = f_k_isLocked ∨ F = f_k_isInScope := by simpa [v_bC] using hF
      rcases hF' with z | z | z | z | z | z
      · rw [z] at hF ⊢; exact bo _ (by decide) (by decide) (by decide) (g1 _ hF)
      · rw [z] at hF ⊢; exact bo _ (by decide) (by decide) (by decide) (g1 _ hF)
      all_goals
        rw [z] at hF ⊢
        exact v_bo_eq (g1 _ hF) (e _ (by decide))
    · intro i
      by_cases c : np ≤ i ∧ i < np + (m + 1)
      · rw [v_rkAn (by decide) c]; decide
      · have : v_rkA p I nr np lo m x3 (nI dv) x5 x6 x7 f_p_fault i = I f_p_fault i := by
          unfold v_rkA
          rw [v_adF ⟨by decide, by decide⟩, v_rkN _ (by decide), v_pkv (by decide) c]
        rw [this]; exact g3 i
    · unfold v_ch; rw [e' _ (by decide)]; exact g4
    · unfold v_ch; rw [e _ (by decide)]; exact g5
    · unfold v_ch; rw [e' _ (by decide)]; exact g6
  obtain ⟨n', t', k1, k2, k3⟩ := v_settleS (L := L) (J := J) (J' := J') hR1 (hK.N e e' (by decide) (by decide)) ⟨y1, z2.N e e' (by decide) (by decide), z3.N e e' (by decide) (by decide), z4.N e e' (by decide) (by decide), y5, z6.N e e' (by decide) (by decide) (fun l hl => q_rkI_l (by omega)) v_eqJ.rfl' v_eqJ.rfl'⟩ hC1 hL (by omega)
  exact ⟨n', t', k1, fun z => k2 (by rw [er]; exact z), k3⟩
