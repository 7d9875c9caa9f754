/-! 999999993: loudness, tuning to, hunting -/
theorem v_loud {p : e_Sp} {nk nr np n s m L : Nat} {t : Nat → Nat} {a b : e_I × e_Jt} (h : v_Sim p nk nr np n t s m L a b) : s_als p a.1 nr = s_run (q_ld b.1) 0 np 0 := by
  have hS := h.1.1.1.1
  have e : s_als p a.1 nr = s_run (q_ld b.1) 0 np 0 := by
    unfold s_als s_alR
    refine v_flatP (P := fun _ => True) hS (gP := fun r n u => s_alP p a.1 (a.1 f_r_power r * a.1 f_a_openings (a.1 f_r_division r).toNatClampNeg / 10) r n u) (G := q_ld b.1) (fun r j u hr hj _ => ?_) (fun _ _ _ => True.intro) True.intro
    obtain ⟨lo, dv, -, -, hdv, -, -, -, -, a7, a8, ⟨-, -, -, b4, -⟩, -⟩ := hS.2.2 r hr
    unfold s_alP q_ld
    rw [hS.rk hr hj, a7, a8, nI_clamp (by omega), h.2.1.2.2.2.1 dv hdv, b4, (h.1.1.2.2.2.1 _ (hS.lt hr hj)).1.1]
    by_cases c : b.1 f_m_speaks (p.2.2.2.2 r + j) = 0
    · rw [if_pos c, if_neg (fun w => w c)]
    · rw [if_neg c, if_pos c]
  exact e
theorem v_cl {x : Int32} : s_max (-50) (s_min 50 x) = q_cl x := by
  unfold s_max s_min q_cl
  by_cases c1 : x < 50
  · rw [if_pos c1, if_neg (show ¬ 50 < x by grind)]
    by_cases c2 : -50 < x
    · rw [if_pos c2, if_neg (show ¬ x < -50 by grind)]
    · rw [if_neg c2]
      by_cases c3 : x < -50
      · rw [if_pos c3]
      · rw [if_neg c3]; grind
  · rw [if_neg c1, if_pos (show (-50 : Int32) < 50 by decide)]
    by_cases c2 : 50 < x
    · rw [if_pos c2]
    · rw [if_neg c2, if_neg (show ¬ x < -50 by grind)]; grind
theorem a_tuneTo {p : e_Sp} {nk nr np n s m L : Nat} {t : Nat → Nat} {I I' : e_I} {J J' : e_Jt} {x y z w : Int32} (h : v_Sim p nk nr np n t s m L (I, J) (I', J')) (h1 : q_ip I' nr x y = true) (h2 : q_ip I' nr z w = true) : v_Sim p nk nr np n t s m L (s_up I f_p_tuning (q_pi I' x y) (s_max (-50) (s_min 50 (I f_p_tuning (q_pi I' x y) + s_pit p I nr z w - s_pit p I nr x y))), J) (q_st nk nr np (q_tto (q_bws nk np I') (q_pi I' x y) (q_pi I' z w), J')) ∧ s_pit p (s_up I f_p_tuning (q_pi I' x y) (s_max (-50) (s_min 50 (I f_p_tuning (q_pi I' x y) + s_pit p I nr z w - s_pit p I nr x y)))) nr x y - s_pit p (s_up I f_p_tuning (q_pi I' x y) (s_max (-50) (s_min 50 (I f_p_tuning (q_pi I' x y) + s_pit p I nr z w - s_pit p I nr x y)))) nr z w = q_pt (q_st nk nr np (q_tto (q_bws nk np I') (q_pi I' x y) (q_pi I' z w), J')).1 (q_pi I' x y) - q_pt (q_st nk nr np (q_tto (q_bws nk np I') (q_pi I' x y) (q_pi I' z w), J')).1 (q_pi I' z w) := by
  have hS := h.1.1.1.1
  obtain ⟨r, j, lo, hr, hj, hlj, ex, ey, e1, e2, e3⟩ := hS.note h1
  have e : s_max (-50) (s_min 50 (I f_p_tuning (q_pi I' x y) + s_pit p I nr z w - s_pit p I nr x y)) = q_cl (I' f_m_tuning (q_pi I' x y) + q_pt I' (q_pi I' z w) - q_pt I' (q_pi I' x y)) := by
    rw [v_cl, show s_pit p I nr z w = _ from v_pit h h2, show s_pit p I nr x y = _ from v_pit h h1, show I f_p_tuning (q_pi I' x y) = I' f_m_tuning (q_pi I' x y) by rw [e1]; exact h.2.1.1 _ (hS.lt hr hj)]
  rw [e, v_bwsid h.1.2.2.1 (Nat.lt_of_le_of_lt (Nat.zero_le _) (hS.lt hr hj))]
  unfold q_tto
  have hs := a_tune (j := q_pi I' x y) (y := q_cl (I' f_m_tuning (q_pi I' x y) + q_pt I' (q_pi I' z w) - q_pt I' (q_pi I' x y))) h
  refine ⟨hs, ?_⟩
  have eE := (q_st_e (nk := nk) (nr := nr) (np := np) (a := (s_up I' f_m_tuning (q_pi I' x y) (q_cl (I' f_m_tuning (q_pi I' x y) + q_pt I' (q_pi I' z w) - q_pt I' (q_pi I' x y))), J'))).1
  have eU : s_eqN [f_m_tuning] I' (s_up I' f_m_tuning (q_pi I' x y) (q_cl (I' f_m_tuning (q_pi I' x y) + q_pt I' (q_pi I' z w) - q_pt I' (q_pi I' x y)))) := s_eqN.up (by decide)
  generalize q_st nk nr np (s_up I' f_m_tuning (q_pi I' x y) (q_cl (I' f_m_tuning (q_pi I' x y) + q_pt I' (q_pi I' z w) - q_pt I' (q_pi I' x y))), J') = Y at *
  dsimp only at eE
  have hip : ∀ u v, q_ip Y.1 nr u v = q_ip I' nr u v := fun u v => by
    unfold q_ip
    rw [eE f_mr_lowest (by decide), eE f_mr_highest (by decide), eU f_mr_lowest (by decide), eU f_mr_highest (by decide)]
  have hpi : ∀ u v, q_pi Y.1 u v = q_pi I' u v := fun u v => by
    unfold q_pi q_pp
    rw [eE f_mr_lowest (by decide), eE f_mr_base (by decide), eU f_mr_lowest (by decide), eU f_mr_base (by decide)]
  rw [← hpi x y, ← hpi z w]
  rw [← hip x y] at h1
  rw [← hip z w] at h2
  rw [hpi x y] at *
  have g1 := v_pit hs h1
  have g2 := v_pit hs h2
  rw [hpi] at g1 g2
  rw [hpi, ← g1, ← g2]
/-! hunting -/
theorem v_exT {n : Nat} {f : Nat → Bool} : s_ex n f = true ↔ ∃ i, i < n ∧ f i = true := by
  induction n with
  | zero => exact ⟨fun w => absurd w (by simp [s_ex]), fun ⟨i, hi, _⟩ => absurd hi (Nat.not_lt_zero _)⟩
  | succ n ih =>
    show (s_ex n f || f n) = true ↔ _
    rw [Bool.or_eq_true, ih]
    constructor
    · rintro (⟨i, hi, hf⟩ | hf)
      · exact ⟨i, by omega, hf⟩
      · exact ⟨n, by omega, hf⟩
    · rintro ⟨i, hi, hf⟩
      by_cases c : i = n
      · right; rw [← c]; exact hf
      · left; exact ⟨i, by omega, hf⟩
theorem v_hfT {I : e_I} (u : Nat) : ∀ n, s_run (q_hfs I) u n false = true ↔ ∃ i, i < n ∧ ¬ I f_m_fault (u + i) = 45 := by
  intro n
  induction n with
  | zero => exact ⟨fun w => absurd w (by simp [s_run]), fun ⟨i, hi, _⟩ => absurd hi (Nat.not_lt_zero _)⟩
  | succ n ih =>
    rw [s_run_l]
    unfold q_hfs at ih ⊢
    rw [Bool.or_eq_true, ih, decide_eq_true_iff]
    constructor
    · rintro (⟨i, hi, hf⟩ | hf)
      · exact ⟨i, by omega, hf⟩
      · exact ⟨n, by omega, hf⟩
    · rintro ⟨i, hi, hf⟩
      by_cases c : i = n
      · right; rw [← c]; exact hf
      · left; exact ⟨i, by omega, hf⟩
theorem v_hf {p : e_Sp} {I I' : e_I} {r u v : Nat} (hf : ∀ j, j < p.2.2.1 T_PARR r → I f_p_fault (p.2.2.2.2 r + j) = I' f_m_fault (p.2.2.2.2 r + j)) (huv : u ≤ v + 1) (hv : v < p.2.2.1 T_PARR r) : s_hf p I r u v = q_hf I' (p.2.2.2.2 r + u) (p.2.2.2.2 r + v) := by
  have e : s_hf p I r u v = true ↔ q_hf I' (p.2.2.2.2 r + u) (p.2.2.2.2 r + v) = true := by
    unfold s_hf q_hf
    rw [v_exT, v_hfT]
    constructor
    · rintro ⟨i, hi, w⟩
      unfold s_flt at w
      rw [Bool.and_eq_true, Bool.and_eq_true, decide_eq_true_iff, decide_eq_true_iff, Bool.not_eq_true', decide_eq_false_iff_not, hf i hi] at w
      exact ⟨i - u, by omega, by rw [show p.2.2.2.2 r + u + (i - u) = p.2.2.2.2 r + i by omega]; exact w.2⟩
    · rintro ⟨i, hi, w⟩
      refine ⟨u + i, by omega, ?_⟩
      unfold s_flt
      rw [Bool.and_eq_true, Bool.and_eq_true, decide_eq_true_iff, decide_eq_true_iff, Bool.not_eq_true', decide_eq_false_iff_not, hf (u + i) (by omega), ← Nat.add_assoc]
      exact ⟨⟨by omega, by omega⟩, w⟩
  exact Bool.eq_iff_iff.mpr e
theorem v_ti {p : e_Sp} {I I' : e_I} {r : Nat} (hf : ∀ j, j < p.2.2.1 T_PARR r → I f_p_fault (p.2.2.2.2 r + j) = I' f_m_fault (p.2.2.2.2 r + j)) : ∀ k u v d, u ≤ v → v < p.2.2.1 T_PARR r → d + k ≤ 40 → s_ti p I r k u v (nI d) = q_ti9 I' k (p.2.2.2.2 r + u) (p.2.2.2.2 r + v) := by
  intro k
  induction k with
  | zero => intro u v d _ _ _; rfl
  | succ k ih =>
    intro u v d huv hv hd
    have hd40 : ¬ (40 : Int32) < nI d := nI_nlt (b := d) (a := 40) (by omega) (by decide)
    unfold s_ti q_ti9
    by_cases c : u = v
    · rw [if_pos (.inl (by omega)), if_pos (by rw [c])]
    · have hm : u + (v - u) / 2 < v := by omega
      have e1 : p.2.2.2.2 r + u + (p.2.2.2.2 r + v - (p.2.2.2.2 r + u)) / 2 = p.2.2.2.2 r + (u + (v - u) / 2) := by omega
      rw [if_neg (fun w => w.elim (fun w => by omega) (fun w => hd40 w)), if_neg (show ¬ p.2.2.2.2 r + u = p.2.2.2.2 r + v by omega), e1, v_hf hf (by omega) (by omega), v_hf hf (by omega) hv, nI_1, ih u (u + (v - u) / 2) (d + 1) (by omega) (by omega) (by omega), ih (u + (v - u) / 2 + 1) v (d + 1) (by omega) hv (by omega), show p.2.2.2.2 r + (u + (v - u) / 2 + 1) = p.2.2.2.2 r + (u + (v - u) / 2) + 1 by omega]
      congr 1
      split
      · rw [← Int32.add_assoc]; rfl
      · exact Int32.add_zero 1
theorem v_hunt {p : e_Sp} {I I' : e_I} {nr np r : Nat} (hS : v_Sh p I I' nr np) (hf : ∀ q, q < np → I f_p_fault q = I' f_m_fault q) (hr : r < nr) {m : Nat} (hm : m + 1 = p.2.2.1 T_PARR r) : s_tri p I r = q_hu I' (p.2.2.2.2 r) m := by
  have hf' : ∀ j, j < p.2.2.1 T_PARR r → I f_p_fault (p.2.2.2.2 r + j) = I' f_m_fault (p.2.2.2.2 r + j) := fun j hj => hf _ (hS.lt hr hj)
  unfold s_tri q_hu
  rw [← hm, Nat.add_sub_cancel, v_hf hf' (by omega) (by omega), Nat.add_zero]
  have := v_ti hf' 7 0 m 0 (by omega) (by omega) (by omega)
  rw [Nat.add_zero] at this
  rw [show (0 : Int32) = nI 0 from rfl, this]
  split
  · rfl
  · rfl
