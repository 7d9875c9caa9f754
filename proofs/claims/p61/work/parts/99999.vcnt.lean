/-! 99999: ranks and knobs beside each other; what is counted -/
def v_R (p : e_Sp) (I I' : e_I) (r : Nat) : Prop := ∃ lo dv, 1 ≤ p.2.2.1 T_PARR r ∧ lo + p.2.2.1 T_PARR r ≤ 128 ∧ dv < 3 ∧ I f_r_lowest r = nI lo ∧ I' f_mr_lowest r = nI lo ∧ I' f_mr_highest r = nI (lo + p.2.2.1 T_PARR r - 1) ∧ I' f_mr_base r = nI (p.2.2.2.2 r) ∧ I f_r_division r = nI dv ∧ I' f_mr_division r = nI dv ∧ (I f_r_use r = I' f_mr_wind r ∧ I f_r_delay r = I' f_mr_delay r ∧ I f_r_rest r = I' f_mr_rest r ∧ I f_r_power r = I' f_mr_power r ∧ I f_r_heatNumber r = I' f_mr_heat r ∧ I' f_mr_rest r ≤ 5) ∧ ∀ j, j < p.2.2.1 T_PARR r → I' f_m_rankOf (p.2.2.2.2 r + j) = nI r
def v_Sh (p : e_Sp) (I I' : e_I) (nr np : Nat) : Prop := (p.2.2.2.2 0 = 0 ∧ (∀ r, r + 1 < nr → p.2.2.2.2 (r + 1) = p.2.2.2.2 r + p.2.2.1 T_PARR r) ∧ np = (if nr = 0 then 0 else p.2.2.2.2 (nr - 1) + p.2.2.1 T_PARR (nr - 1))) ∧ (nr ≤ 10 ∧ np ≤ 1280) ∧ ∀ r, r < nr → v_R p I I' r
theorem v_Sh.le {p : e_Sp} {I I' : e_I} {nr np : Nat} (h : v_Sh p I I' nr np) {r : Nat} (hr : r < nr) : p.2.2.2.2 r + p.2.2.1 T_PARR r ≤ np := by
  obtain ⟨⟨h0, h1, h2⟩, -, -⟩ := h
  rw [h2, if_neg (by omega)]
  have key : ∀ k, r + k < nr → p.2.2.2.2 r + p.2.2.1 T_PARR r ≤ p.2.2.2.2 (r + k) + p.2.2.1 T_PARR (r + k) := by
    intro k
    induction k with
    | zero => exact fun _ => Nat.le_refl _
    | succ k ih =>
      intro hk
      have e := h1 (r + k) (by omega)
      have := ih (by omega)
      rw [show r + (k + 1) = r + k + 1 by omega, e]
      omega
  have := key (nr - 1 - r) (by omega)
  rw [show r + (nr - 1 - r) = nr - 1 by omega] at this
  exact this
theorem v_Sh.lt {p : e_Sp} {I I' : e_I} {nr np : Nat} (h : v_Sh p I I' nr np) {r j : Nat} (hr : r < nr) (hj : j < p.2.2.1 T_PARR r) : p.2.2.2.2 r + j < np := by
  have := h.le hr
  omega
theorem v_Sh.rk {p : e_Sp} {I I' : e_I} {nr np : Nat} (h : v_Sh p I I' nr np) {r j : Nat} (hr : r < nr) (hj : j < p.2.2.1 T_PARR r) : q_rk I' (p.2.2.2.2 r + j) = r := by
  obtain ⟨lo, dv, -, -, -, -, -, -, -, -, -, -, h1⟩ := h.2.2 r hr
  unfold q_rk
  rw [h1 j hj, nI_clamp (by have := h.2.1.1; omega)]
theorem v_Sh.ex {p : e_Sp} {I I' : e_I} {nr np : Nat} (h : v_Sh p I I' nr np) {q : Nat} (hq : q < np) : ∃ r j, r < nr ∧ j < p.2.2.1 T_PARR r ∧ q = p.2.2.2.2 r + j ∧ q_rk I' q = r := by
  have hne : nr ≠ 0 := fun z => by rw [h.1.2.2, if_pos z] at hq; omega
  have key : ∀ m, m < nr → q < p.2.2.2.2 m + p.2.2.1 T_PARR m → ∃ r j, r < nr ∧ j < p.2.2.1 T_PARR r ∧ q = p.2.2.2.2 r + j := by
    intro m
    induction m with
    | zero => exact fun hm hq => ⟨0, q, hm, by rw [h.1.1] at hq; omega, by rw [h.1.1]; omega⟩
    | succ m ih =>
      intro hm hq
      by_cases e : q < p.2.2.2.2 (m + 1)
      · exact ih (by omega) (by rw [h.1.2.1 m hm] at e; exact e)
      · exact ⟨m + 1, q - p.2.2.2.2 (m + 1), hm, by omega, by omega⟩
  obtain ⟨r, j, hr, hj, e⟩ := key (nr - 1) (by omega) (by rw [h.1.2.2, if_neg hne] at hq; exact hq)
  exact ⟨r, j, hr, hj, e, by rw [e]; exact h.rk hr hj⟩
/-- one pipe of one rank -/
theorem v_pat {p : e_Sp} {I I' : e_I} {nr np : Nat} (h : v_Sh p I I' nr np) (x y : Int32) : s_pat p I nr x y = if q_ip I' nr x y = true then some (q_pi I' x y) else none := by
  unfold s_pat q_ip
  by_cases c : 0 ≤ x ∧ x < nI nr
  · rw [if_pos c, decide_eq_true c, Bool.true_and]
    obtain ⟨r, hr, rfl⟩ := s_nat c.1 c.2 (by have := h.2.1.1; omega)
    unfold s_pof q_pi q_pp
    have hn := h.2.1.1
    rw [nI_clamp (by omega)]
    have hle := h.le hr
    obtain ⟨lo, dv, g1, g2, -, g3, g4, g5, g6, -⟩ := h.2.2 r hr
    have hnp := h.2.1.2
    rw [g3, g4, g5, g6]
    by_cases c1 : nI lo ≤ y ∧ y ≤ nI (lo + p.2.2.1 T_PARR r - 1)
    · obtain ⟨j, hj, rfl⟩ := nI_of (x := y) (fun z => by
        have := Int32.lt_of_le_of_lt c1.1 z
        exact nI_pos (n := lo) (by omega) this)
      have b1 := (nI_leI (by omega) hj).mp c1.1
      have b2 := (nI_leI hj (by omega)).mp c1.2
      rw [decide_eq_true c1, if_pos rfl, nI_add, if_pos ⟨c1.1, nI_lt (by omega) (by omega)⟩, nI_sub b1, nI_add, nI_sub (show lo ≤ _ by omega), nI_clamp (by omega), nI_clamp (by omega)]
      congr 1; omega
    · rw [decide_eq_false c1, nI_add, if_neg]
      · rfl
      intro z
      apply c1
      obtain ⟨j, hj, rfl⟩ := nI_of (x := y) (fun z2 => nI_pos (n := lo) (by omega) (Int32.lt_of_le_of_lt z.1 z2))
      exact ⟨z.1, nI_le (by have := (nI_ltI hj (by omega)).mp z.2; omega) (by omega)⟩
  · rw [if_neg c, decide_eq_false c, Bool.false_and]; rfl
theorem v_pat_lt {p : e_Sp} {I I' : e_I} {nr np : Nat} (h : v_Sh p I I' nr np) {x y : Int32} (hi : q_ip I' nr x y = true) : q_pi I' x y < np := by
  have e := v_pat h x y
  rw [if_pos hi] at e
  unfold s_pat at e
  by_cases c : 0 ≤ x ∧ x < nI nr
  · rw [if_pos c] at e
    obtain ⟨r, hr, rfl⟩ := s_nat c.1 c.2 (by have := h.2.1.1; omega)
    rw [nI_clamp (by have := h.2.1.1; omega)] at e
    unfold s_pof at e
    obtain ⟨lo, dv, g1, g2, -, g3, -⟩ := h.2.2 r hr
    rw [g3, nI_add] at e
    by_cases c1 : nI lo ≤ y ∧ y < nI (lo + p.2.2.1 T_PARR r)
    · rw [if_pos c1] at e
      obtain ⟨j, hj, rfl⟩ := nI_of (x := y) (fun z2 => nI_pos (n := lo) (by omega) (Int32.lt_of_le_of_lt c1.1 z2))
      have b1 := (nI_leI (by omega) hj).mp c1.1
      have b2 := (nI_ltI hj (by omega)).mp c1.2
      rw [nI_sub b1, nI_clamp (by omega)] at e
      have := h.le hr
      have := Option.some.inj e
      omega
    · rw [if_neg c1] at e; exact absurd e (by simp)
  · rw [if_neg c] at e; exact absurd e (by simp)
/-- stops -/
def v_Stp (I I' : e_I) (k : Nat) : Prop := I f_s_stage k = I' f_mk_stage k ∧ (∃ m, m ≤ 4 ∧ I f_s_rows k = nI m ∧ I' f_mk_rows k = nI m ∧ ∀ i, i < m → I f_s_ranks (k * 4 + i) = I' f_mk_ranks (k * 4 + i) ∧ I f_s_offsets (k * 4 + i) = I' f_mk_offsets (k * 4 + i) ∧ I f_s_firsts (k * 4 + i) = I' f_mk_froms (k * 4 + i) ∧ I f_s_lasts (k * 4 + i) = I' f_mk_tos (k * 4 + i)) ∧ (∀ y, y < 61 → I f_s_places (k * 61 + y) = I' f_mk_wires (k * 61 + y)) ∧ (∀ y, y < 61 → ∃ z, z < 61 ∧ I f_s_places (k * 61 + y) = nI z ∧ I f_s_keysAt (k * 61 + z) = nI y) ∧ ∀ z, z < 61 → ∃ y, y < 61 ∧ I f_s_places (k * 61 + y) = nI z ∧ I f_s_keysAt (k * 61 + z) = nI y
def v_K (I I' : e_I) (k : Nat) : Prop := (I f_k_kind k = I' f_mk_kind k ∧ I f_k_division k = I' f_mk_division k ∧ I f_k_isOut k = I' f_mk_isDrawn k ∧ I f_k_relay k = I' f_mk_relay k) ∧ (∃ dv, dv < 3 ∧ I f_k_division k = nI dv) ∧ (I f_k_relay k = -1 ∨ ∃ r, r < 16 ∧ I f_k_relay k = nI r) ∧ ((k < 3 ∧ I f_k_kind k = 117 ∧ I f_k_division k = nI k ∧ I f_c_from k = nI k ∧ I f_c_to k = nI k ∧ I f_c_shift k = 0 ∧ I f_c_kind k = 97) ∨ (3 ≤ k ∧ I f_k_kind k = 99 ∧ I f_c_from k = I f_k_division k ∧ I f_c_to k = I' f_mk_to k ∧ I f_c_shift k = I' f_mk_shift k ∧ I f_c_kind k = I' f_mk_letter k) ∨ (3 ≤ k ∧ I f_k_kind k = 115 ∧ v_Stp I I' k) ∨ (3 ≤ k ∧ I f_k_kind k = 116))
def v_Kn (I I' : e_I) (nk : Nat) : Prop := (3 ≤ nk ∧ nk ≤ 40) ∧ ∀ k, k < nk → v_K I I' k
theorem v_Kn.out {I I' : e_I} {nk : Nat} (h : v_Kn I I' nk) : v_eq nk f_k_isOut f_mk_isDrawn I I' := fun k hk => (h.2 k hk).1.2.2.1
theorem v_ct {I I' : e_I} {nk k : Nat} (h : v_Kn I I' nk) (hr : v_eq 16 f_a_relaysOn f_m_isRelay I I') (hk : k < nk) : s_dr I k = q_ct I' k := by
  obtain ⟨⟨-, -, h1, h2⟩, -, h3, -⟩ := h.2 k hk
  unfold s_dr q_ct s_ro
  rw [← h1, ← h2]
  rcases h3 with e | ⟨r, hr16, e⟩
  · rw [e, decide_eq_false (show ¬ (0 : Int32) ≤ -1 by decide), decide_eq_false (show ¬ ((-1 : Int32) ≠ -1) by decide)]
    rfl
  · rw [e, decide_eq_true (nI_pos' (by omega)), decide_eq_true (show nI r < 16 from nI_lt (b := 16) hr16 (by decide)), nI_clamp (by omega), hr r hr16, decide_eq_true (show nI r ≠ -1 from fun z => by
      have := nI_pos' (n := r) (by omega)
      rw [z] at this
      exact absurd this (by decide))]
    rfl
theorem v_so {I I' : e_I} {nk k : Nat} (h : v_Kn I I' nk) (hr : v_eq 16 f_a_relaysOn f_m_isRelay I I') (ht : I f_isTutti 0 = I' f_m_isTutti 0) (hc : I f_crescendo 0 = I' f_m_crescendo 0) (hk : k < nk) (hs : I f_k_kind k = 115) : s_so I k = q_so I' k := by
  have e := v_ct h hr hk
  obtain ⟨-, -, -, h4⟩ := h.2 k hk
  have hst : v_Stp I I' k := by
    rcases h4 with h | h | h | h
    · rw [hs] at h; exact absurd h.2.1 (by decide)
    · rw [hs] at h; exact absurd h.2.1 (by decide)
    · exact h.2.2
    · rw [hs] at h; exact absurd h.2 (by decide)
  unfold s_so q_so
  rw [hs, e, ht, hc, hst.1, decide_eq_true rfl, Bool.true_and]
  cases q_ct I' k <;> simp
/-! what is counted -/
def v_Rw (I : e_I) (nr k : Nat) (y : Int32) (q : Nat) : Int32 := v_S (I f_mk_rows k).toNatClampNeg (fun r => if ((I f_mk_froms (k * 4 + r) ≤ I f_mk_wires (k * 61 + y.toNatClampNeg) ∧ I f_mk_wires (k * 61 + y.toNatClampNeg) ≤ I f_mk_tos (k * 4 + r)) ∧ q_ip I nr (I f_mk_ranks (k * 4 + r)) (q_nt I k (I f_mk_wires (k * 61 + y.toNatClampNeg)) r) = true) ∧ q_pi I (I f_mk_ranks (k * 4 + r)) (q_nt I k (I f_mk_wires (k * 61 + y.toNatClampNeg)) r) = q then 1 else 0)
def v_P (I : e_I) (nk nr : Nat) (x y : Int32) (q : Nat) : Int32 := v_S nk (fun k => if I f_mk_kind k = 115 ∧ I f_mk_division k = x ∧ q_so I k = true then v_Rw I nr k y q else 0)
theorem v_Rw.N {I I1 : e_I} (h : s_eqN [f_m_counts] I I1) {nr k q : Nat} {y : Int32} : v_Rw I1 nr k y q = v_Rw I nr k y q := by
  unfold v_Rw q_pi q_nt q_ip q_pp
  simp only [h f_mk_rows (by decide), h f_mk_froms (by decide), h f_mk_wires (by decide), h f_mk_tos (by decide), h f_mk_ranks (by decide), h f_mk_offsets (by decide), h f_mr_lowest (by decide), h f_mr_highest (by decide), h f_mr_base (by decide)]
theorem q_so.N {I I1 : e_I} (h : s_eqN [f_m_counts] I I1) {k : Nat} : q_so I1 k = q_so I k := by
  unfold q_so q_ct
  simp only [h f_mk_isDrawn (by decide), h f_mk_relay (by decide), h f_m_isRelay (by decide), h f_m_isTutti (by decide), h f_mk_stage (by decide), h f_m_crescendo (by decide)]
theorem v_P.N {I I1 : e_I} (h : s_eqN [f_m_counts] I I1) {nk nr q : Nat} {x y : Int32} : v_P I1 nk nr x y q = v_P I nk nr x y q := by
  unfold v_P
  simp only [v_Rw.N h, q_so.N h, h f_mk_kind (by decide), h f_mk_division (by decide)]
theorem v_plS {I : e_I} {nr k q : Nat} {x y : Int32} : q_plS nr x y k I f_m_counts q = I f_m_counts q + (if I f_mk_kind k = 115 ∧ I f_mk_division k = x ∧ q_so I k = true then v_Rw I nr k y q else 0) := by
  unfold q_plS
  by_cases c : I f_mk_kind k = 115 ∧ I f_mk_division k = x ∧ q_so I k = true
  · rw [if_pos c, if_pos c]
    refine v_acc (T := [f_m_counts]) (I0 := I) (m := (I f_mk_rows k).toNatClampNeg) (fun r I => by
      unfold q_plR
      split
      · exact s_eqN.up (by decide)
      · exact s_eqN.rfl') (fun r I1 hr h => ?_) s_eqN.rfl' _ (Nat.le_refl _)
    unfold q_plR
    have e1 : q_nt I1 k = q_nt I k := by unfold q_nt; simp only [h f_mk_offsets (by decide)]
    have e2 : q_ip I1 nr = q_ip I nr := by unfold q_ip; simp only [h f_mr_lowest (by decide), h f_mr_highest (by decide)]
    have e3 : q_pp I1 = q_pp I := by unfold q_pp; simp only [h f_mr_lowest (by decide), h f_mr_base (by decide)]
    rw [e1, e2, e3, h f_mk_froms (by decide), h f_mk_tos (by decide), h f_mk_ranks (by decide)]
    by_cases c1 : (I f_mk_froms (k * 4 + r) ≤ I f_mk_wires (k * 61 + y.toNatClampNeg) ∧ I f_mk_wires (k * 61 + y.toNatClampNeg) ≤ I f_mk_tos (k * 4 + r)) ∧ q_ip I nr (I f_mk_ranks (k * 4 + r)) (q_nt I k (I f_mk_wires (k * 61 + y.toNatClampNeg)) r) = true
    · rw [if_pos c1]
      by_cases c2 : q_pi I (I f_mk_ranks (k * 4 + r)) (q_nt I k (I f_mk_wires (k * 61 + y.toNatClampNeg)) r) = q
      · rw [if_pos ⟨c1, c2⟩, show (q_pp I (I f_mk_ranks (k * 4 + r)) (q_nt I k (I f_mk_wires (k * 61 + y.toNatClampNeg)) r)).toNatClampNeg = q from c2, s_up_s]
      · rw [if_neg (fun z => c2 z.2), s_up_i (fun z => c2 z.symm), Int32.add_zero]
    · rw [if_neg c1, if_neg (fun z => c1 z.1), Int32.add_zero]
  · rw [if_neg c, if_neg c, Int32.add_zero]
theorem v_plN {nr nk : Nat} {x y : Int32} {I : e_I} : s_eqN [f_m_counts] I (q_pl nk nr x y I) := s_eqN.run (fun k I => by
  unfold q_plS
  split
  · exact s_eqN.run (fun r I => by
      unfold q_plR
      split
      · exact s_eqN.up (by decide)
      · exact s_eqN.rfl') _ _ _
  · exact s_eqN.rfl') _ _ _
theorem v_pl {I : e_I} {nk nr q : Nat} {x y : Int32} : q_pl nk nr x y I f_m_counts q = I f_m_counts q + v_P I nk nr x y q := by
  refine v_acc (T := [f_m_counts]) (I0 := I) (m := nk) (fun k I => by
    unfold q_plS
    split
    · exact s_eqN.run (fun r I => by
        unfold q_plR
        split
        · exact s_eqN.up (by decide)
        · exact s_eqN.rfl') _ _ _
    · exact s_eqN.rfl') (fun k I1 hk h => ?_) s_eqN.rfl' _ (Nat.le_refl _)
  rw [v_plS, v_Rw.N h, q_so.N h, h f_mk_kind (by decide), h f_mk_division (by decide)]
