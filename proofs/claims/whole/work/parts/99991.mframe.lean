/-! 99991: frames of the second implementation (printed by wip/whole/p99991.py) -/
/-- the frames stand -/
def q_F (p : e_Sp) (I : e_I) : Prop := q_O p I ∧ ∀ g, g < 4 → ∃ m, m ≤ 20 ∧ s_La p I (8 + g) m ∧ ∀ j, j < 64 → p.2.1 T_MFRAME (64 * g + j) = decide (j < m)
/-- the places that what is recorded and frames may change -/
def q_N2 (t i : Nat) : Bool := (decide (t = T_MKEPT) || decide (t = T_MFRAME)) || (decide (t = T_LARR) && decide (4 ≤ i))
theorem q_N2_t {t i : Nat} (h : [T_MKEPT, T_LARR, T_MFRAME].contains t = false) : q_N2 t i = false := by
  have h1 : ∀ t', t' ∈ [T_MKEPT, T_LARR, T_MFRAME] → t ≠ t' := fun t' ht' z => by rw [z, List.contains_iff_mem.mpr ht'] at h; cases h
  unfold q_N2
  rw [decide_eq_false (h1 T_MKEPT (by decide)), decide_eq_false (h1 T_MFRAME (by decide)), decide_eq_false (h1 T_LARR (by decide))]
  rfl
theorem s_xv.rn {p : e_Sp} {τ σ : Nat → Nat} : s_xv q_N2 p (s_rn p τ σ) := ⟨fun t i ht => by
  have e : t ≠ T_MFRAME := fun z => by rw [z] at ht; exact absurd ht (by unfold q_N2; simp)
  exact ⟨s_rn_n e, s_rn_nv e, rfl⟩, rfl⟩
theorem s_xv.uvF {p : e_Sp} {U : Nat → Bool} : s_xv q_N2 p (s_uv p T_MFRAME U) := ⟨fun t i ht => by
  have e : t ≠ T_MFRAME := fun z => by rw [z] at ht; exact absurd ht (by unfold q_N2; simp)
  exact ⟨rfl, s_uv_n (fun z => e z.1), rfl⟩, rfl⟩
def q_N3 (g m t i : Nat) : Bool := (decide (t = T_MFRAME) && decide (i = 64 * g + m)) || (decide (t = T_LARR) && decide (i = 8 + g))
theorem q_N3_f {g m t i : Nat} (h1 : t ≠ T_MFRAME ∨ i ≠ 64 * g + m) (h2 : t ≠ T_LARR ∨ i ≠ 8 + g) : q_N3 g m t i = false := by
  unfold q_N3
  have e1 : (decide (t = T_MFRAME) && decide (i = 64 * g + m)) = false := by
    rcases h1 with h | h
    · rw [decide_eq_false h]; rfl
    · rw [decide_eq_false h, Bool.and_false]
  have e2 : (decide (t = T_LARR) && decide (i = 8 + g)) = false := by
    rcases h2 with h | h
    · rw [decide_eq_false h]; rfl
    · rw [decide_eq_false h, Bool.and_false]
  rw [e1, e2]; rfl
theorem q_N3_t {g m t i : Nat} (h1 : t ≠ T_MFRAME) (h2 : t ≠ T_LARR) : q_N3 g m t i = false := q_N3_f (Or.inl h1) (Or.inl h2)
theorem q_N3_1 {g m : Nat} : q_N3 g m T_MFRAME (64 * g + m) = true ∧ q_N3 g m T_LARR (8 + g) = true := by
  unfold q_N3
  exact ⟨by rw [decide_eq_true rfl, decide_eq_true rfl]; rfl, by rw [decide_eq_true (show T_LARR = T_LARR from rfl), decide_eq_true (show 8 + g = 8 + g from rfl)]; simp⟩
theorem q_N3_2 {g m : Nat} {p p' : e_Sp} (h : s_xv (q_N3 g m) p p') : s_xv q_N2 p p' := h.mono (fun t i ht => by
  have e1 : t ≠ T_MFRAME := fun z => by rw [z] at ht; exact absurd ht (by unfold q_N2; simp)
  have e2 : ¬ (t = T_LARR ∧ i = 8 + g) := fun z => by rw [z.1, z.2] at ht; exact absurd ht (by unfold q_N2; rw [decide_eq_true (show T_LARR = T_LARR from rfl), decide_eq_true (show 4 ≤ 8 + g by omega)]; simp)
  unfold q_N3
  rw [decide_eq_false e1]
  by_cases z : t = T_LARR
  · rw [decide_eq_false (fun y => e2 ⟨z, y⟩), Bool.and_false]; rfl
  · rw [decide_eq_false z]; rfl)
theorem q_F.ins {p p2 : e_Sp} {I I3 : e_I} {g t m : Nat} (hF : q_F p I) (hg : g < 4) (hm20 : m < 20) (ht : t ≤ m) (hm : I f_l_size (8 + g) = nI m) (x : s_xv (q_N3 g m) p p2) (hv : p2.2.1 T_MFRAME (64 * g + m) = true) (hA : p2.2.1 T_LARR (8 + g) = true ∧ 10 ≤ p2.2.2.1 T_LARR (8 + g) ∧ m + 1 ≤ p2.2.2.1 T_LARR (8 + g) ∧ p2.2.2.1 T_LARR (8 + g) ≤ 60000000) (e : ∀ l, l ≠ 8 + g → I3 f_l_size l = I f_l_size l) (e2 : I3 f_l_size (8 + g) = nI (m + 1)) : q_F (s_adp p2 g t m) I3 := by
  have hl : ∀ l, (s_adp p2 g t m).2.1 T_LIST l = p.2.1 T_LIST l := fun l => (s_rn_nv (by decide)).trans (x.1 T_LIST l (q_N3_t (by decide) (by decide))).2.1
  have eL : ∀ l, (s_adp p2 g t m).1 T_LARR l = p2.1 T_LARR l ∧ (s_adp p2 g t m).2.1 T_LARR l = p2.2.1 T_LARR l := fun l => ⟨s_rn_n (by decide), s_rn_nv (by decide)⟩
  have mv : ∀ u j, u < 4 → j < 64 → ¬ (u = g ∧ j = m) → p2.2.1 T_MFRAME (64 * u + j) = p.2.1 T_MFRAME (64 * u + j) := fun u j hu hj hne => (x.1 T_MFRAME (64 * u + j) (q_N3_f (Or.inr (by omega)) (Or.inl (by decide)))).2.1
  refine ⟨fun l h1 => ?_, fun u hu => ?_⟩
  · rw [hl] at h1
    obtain ⟨h2, h3⟩ := hF.1 l h1
    refine ⟨h2, fun h8 => ?_⟩
    by_cases z : l = 8 + g
    · subst z; rw [e2, nI_clamp (by omega)]; omega
    · rw [e l z]; exact h3 h8
  · obtain ⟨m9, h1, h2, h3⟩ := hF.2 u hu
    by_cases z : u = g
    · subst z
      have em : m9 = m := (nI_eq (by omega) (by omega)).mp (h2.2.1.symm.trans hm)
      subst em
      refine ⟨m9 + 1, by omega, ⟨(hl _).trans h2.1, e2, by omega, Or.inr ⟨(eL _).2.trans hA.1, hA.2.1, hA.2.2.1, hA.2.2.2⟩⟩, fun j hj => ?_⟩
      show p2.2.1 T_MFRAME (s_ri (64 * u) t m9 (64 * u + j)) = _
      by_cases e5 : j = t
      · rw [e5, show s_ri (64 * u) t m9 (64 * u + t) = 64 * u + m9 from if_pos rfl, hv]
        exact (decide_eq_true (by omega)).symm
      · by_cases e6 : t < j ∧ j ≤ m9
        · rw [show s_ri (64 * u) t m9 (64 * u + j) = 64 * u + (j - 1) from by unfold s_ri; rw [if_neg (by omega), if_pos (by omega)]; omega, mv u (j - 1) hu (by omega) (by omega), h3 _ (by omega)]
          exact decide_eq_decide.mpr (by omega)
        · rw [show s_ri (64 * u) t m9 (64 * u + j) = 64 * u + j from by unfold s_ri; rw [if_neg (by omega), if_neg (by omega)]]
          by_cases e7 : j = m9
          · omega
          · rw [mv u j hu hj (by omega), h3 _ hj]
            exact decide_eq_decide.mpr (by omega)
    · have xl := x.1 T_LARR (8 + u) (q_N3_f (Or.inl (by decide)) (Or.inr (by omega)))
      refine ⟨m9, h1, ?_, fun j hj => ?_⟩
      · unfold s_La at h2 ⊢
        rw [hl, e _ (by omega), (eL _).1, (eL _).2, xl.1, xl.2.1, show (s_adp p2 g t m).2.2.1 T_LARR (8 + u) = p.2.2.1 T_LARR (8 + u) from xl.2.2]
        exact h2
      · show p2.2.1 T_MFRAME (s_ri (64 * g) t m (64 * u + j)) = _
        rw [show s_ri (64 * g) t m (64 * u + j) = 64 * u + j from by unfold s_ri; rw [if_neg (by omega), if_neg (by omega)], mv u j hu hj (by omega)]
        exact h3 j hj
theorem q_F.del {p : e_Sp} {I I3 : e_I} {g t m : Nat} (hF : q_F p I) (hg : g < 4) (ht : t ≤ m) (hm : I f_l_size (8 + g) = nI (m + 1)) (hm20 : m < 20) (e : ∀ l, l ≠ 8 + g → I3 f_l_size l = I f_l_size l) (e2 : I3 f_l_size (8 + g) = nI m) : q_F (s_rmp p g t m) I3 := by
  have hl : ∀ l, (s_rmp p g t m).2.1 T_LIST l = p.2.1 T_LIST l := fun l => (s_uv_n (fun z => absurd z.1 (by decide))).trans (s_rn_nv (by decide))
  have eL : ∀ l, (s_rmp p g t m).1 T_LARR l = p.1 T_LARR l ∧ (s_rmp p g t m).2.1 T_LARR l = p.2.1 T_LARR l := fun l => ⟨show (s_rn p (s_rj (64 * g) t m) (s_ri (64 * g) t m)).1 T_LARR l = _ from s_rn_n (by decide), (s_uv_n (fun z => absurd z.1 (by decide))).trans (s_rn_nv (by decide))⟩
  refine ⟨fun l h1 => ?_, fun u hu => ?_⟩
  · rw [hl] at h1
    obtain ⟨h2, h3⟩ := hF.1 l h1
    refine ⟨h2, fun h8 => ?_⟩
    by_cases z : l = 8 + g
    · subst z; rw [e2, nI_clamp (by omega)]; omega
    · rw [e l z]; exact h3 h8
  · obtain ⟨m9, h1, h2, h3⟩ := hF.2 u hu
    by_cases z : u = g
    · subst z
      have em : m9 = m + 1 := (nI_eq (by omega) (by omega)).mp (h2.2.1.symm.trans hm)
      subst em
      refine ⟨m, by omega, ⟨(hl _).trans h2.1, e2, by omega, ?_⟩, fun j hj => ?_⟩
      · rcases h2.2.2.2 with h | h
        · omega
        · exact Or.inr ⟨(eL _).2.trans h.1, h.2.1, by have := h.2.2.1; show m ≤ p.2.2.1 T_LARR (8 + u); omega, h.2.2.2⟩
      · by_cases e5 : j = m
        · rw [e5, s_uv_f (decide_eq_true rfl)]
          exact (decide_eq_false (by omega)).symm
        · rw [s_uv_n (fun z => by have := of_decide_eq_true z.2; omega)]
          show p.2.1 T_MFRAME (s_rj (64 * u) t m (64 * u + j)) = _
          by_cases e6 : t ≤ j ∧ j < m
          · rw [show s_rj (64 * u) t m (64 * u + j) = 64 * u + (j + 1) from by unfold s_rj; rw [if_neg (by omega), if_pos (by omega)]; omega, h3 _ (by omega)]
            exact decide_eq_decide.mpr (by omega)
          · rw [show s_rj (64 * u) t m (64 * u + j) = 64 * u + j from by unfold s_rj; rw [if_neg (by omega), if_neg (by omega)], h3 _ hj]
            exact decide_eq_decide.mpr (by omega)
    · refine ⟨m9, h1, ?_, fun j hj => ?_⟩
      · unfold s_La at h2 ⊢
        rw [hl, e _ (by omega), (eL _).1, (eL _).2]
        exact h2
      · rw [s_uv_n (fun z => by have := of_decide_eq_true z.2; omega)]
        show p.2.1 T_MFRAME (s_rj (64 * g) t m (64 * u + j)) = _
        rw [show s_rj (64 * g) t m (64 * u + j) = 64 * u + j from by unfold s_rj; rw [if_neg (by omega), if_neg (by omega)]]
        exact h3 j hj
/-- the ints and longs as a frame joins, as one leaves -/
def q_fmI (I : e_I) (g t m : Nat) : e_I := s_adF (s_IMFRAME I (64 * g + m) 0) g t m
def q_fmJ (I : e_I) (J : e_Jt) (nk g t m : Nat) : e_Jt := s_rnJ (s_run (q_keJ j_mf_knobs j_mf_drawn (s_IMFRAME I (64 * g + m) 0) (64 * g + m)) 0 nk (s_JMFRAME J (64 * g + m) 0 0)) (s_ri (64 * g) t m)
def q_cuI (I : e_I) (g t m : Nat) : e_I := s_up (s_rnI (s_up I f_l_modCount (8 + g) (I f_l_modCount (8 + g) + 1)) (s_rj (64 * g) t m)) f_l_size (8 + g) (nI m)
def q_cuJ (J : e_Jt) (g t m : Nat) : e_Jt := s_rnJ J (s_rj (64 * g) t m)
def q_fT : List Nat := [f_mf_isSet, f_l_size, f_l_modCount]
theorem s_rnI_e {I : e_I} {τ : Nat → Nat} : s_eqN q_fT I (s_rnI I τ) := fun F hF => funext fun i => if_neg (fun z => by rw [z] at hF; exact absurd hF (by decide))
theorem q_fmI_e {I : e_I} {g t m : Nat} : s_eqN q_fT I (q_fmI I g t m) := ((((s_eqN.up (by decide)).trans (s_eqN.up (by decide))).trans s_rnI_e).trans (s_eqN.up (by decide)))
theorem q_cuI_e {I : e_I} {g t m : Nat} : s_eqN q_fT I (q_cuI I g t m) := (((s_eqN.up (by decide)).trans s_rnI_e).trans (s_eqN.up (by decide)))
theorem s_rnI_l {I : e_I} {τ : Nat → Nat} {l : Nat} : s_rnI I τ f_l_size l = I f_l_size l := if_neg (by decide)
theorem s_adF_l {I : e_I} {g t m l : Nat} (h : l ≠ 8 + g) : s_adF I g t m f_l_size l = I f_l_size l := by
  show s_up _ f_l_size (8 + g) _ f_l_size l = _
  rw [s_up_i h, s_rnI_l, s_up_F (by decide)]
theorem q_fT2 {F : Nat} (hF : F ∈ q_ms2) : q_fT.contains F = false := by
  have h9 : (q_ms2.all fun F => !q_fT.contains F) = true := by decide
  have := List.all_eq_true.mp h9 F hF
  simpa using this
theorem q_fmI_l {I : e_I} {g t m l : Nat} (h : l ≠ 8 + g) : q_fmI I g t m f_l_size l = I f_l_size l := by
  unfold q_fmI s_adF s_IMFRAME
  rw [s_up_i h, s_rnI_l, s_up_F (by decide), s_up_F (by decide)]
theorem q_cuI_l {I : e_I} {g t m l : Nat} (h : l ≠ 8 + g) : q_cuI I g t m f_l_size l = I f_l_size l := by
  unfold q_cuI
  rw [s_up_i h, s_rnI_l, s_up_F (by decide)]
theorem q_G.fr {p p' : e_Sp} {I I' : e_I} {c c' : Nat × Nat} {nk nr np a b n a' b' g : Nat} (h : q_G p I c nk nr np a b n) (x : s_xv q_N2 p p') (e : s_eqN q_fT I I') (el : ∀ l, l ≠ 8 + g → I' f_l_size l = I f_l_size l) (hL : q_L p' I' c' a' b' n) (ha : a' + n + 100000000 < 4294960000) : q_G p' I' c' nk nr np a' b' n := by
  have hf : (([f_m_isDown, f_m_isRelay] ++ q_gs2).all fun F => !q_fT.contains F) = true := by decide
  have hF : ∀ F, F ∈ [f_m_isDown, f_m_isRelay] ++ q_gs2 → I' F = I F := fun F hF => e F (by have := List.all_eq_true.mp hf F hF; simpa using this)
  exact h.w (fun t i ht => (x.1 t i (q_N2_t ht)).2.1) (fun F h1 => hF F (List.mem_append_right _ h1)) (el 3 (by omega)) (el 2 (by omega)) (hF _ (by decide)) (hF _ (by decide)) hL ha h.2.2.2.2.2.2.2
/-- what was recorded, as frames change -/
theorem q_L.fr {p p' : e_Sp} {I I' : e_I} {c : Nat × Nat} {a b n x y : Nat} (h : q_L p I c a b n) (h1 : p'.2.1 T_MKEPT = p.2.1 T_MKEPT) (h2 : p'.2.1 T_LIST 4 = p.2.1 T_LIST 4) (h3 : p'.1 T_LARR 4 = p.1 T_LARR 4 ∧ p'.2.1 T_LARR 4 = p.2.1 T_LARR 4 ∧ p'.2.2.1 T_LARR 4 = p.2.2.1 T_LARR 4) (e : I' f_l_size 4 = I f_l_size 4) : q_L p' I' (c.1 + x, c.2 + y) (a + x) (b + y) n := h.v h1 h2 h3 e

set_option maxRecDepth 100000 in
set_option maxHeartbeats 4000000 in
theorem c_X16_turnTo {X : e_XT} {d : Nat} {p : e_Sp} {I : e_I} {J : e_Jt} {c : Nat × Nat} {w : e_Rw1} {Q : e_Rt → e_SS → Prop} {nk nr np a b n : Nat} (hG : q_G p I c nk nr np a b n) (hX : (X 8).1 = 0) (hF : q_F p I) (h5 : I f_l_size 5 = nI 4) {g m : Nat} (hg : g < 4) (eg : I f_m_guest 0 = nI g) (hm : I f_l_size (8 + g) = nI m) (hm20 : m ≤ 20) {x : Int32} (k : ∀ t, t < m → x = nI t → ∀ p' c' n', q_X p p' → q_L p' (q_st nk nr np ((q_mt nk (J j_mf_knobs (64 * g + t)) (J j_mf_drawn (64 * g + t)) I).1, J)).1 c' a b n' → n' ≤ n + np → Q (.inl (some (.int (q_mt nk (J j_mf_knobs (64 * g + t)) (J j_mf_drawn (64 * g + t)) I).2))) (p', q_an (q_st nk nr np ((q_mt nk (J j_mf_knobs (64 * g + t)) (J j_mf_drawn (64 * g + t)) I).1, J)).1, (q_st nk nr np ((q_mt nk (J j_mf_knobs (64 * g + t)) (J j_mf_drawn (64 * g + t)) I).1, J)).2, c', w)) (kx : ¬ (0 ≤ x ∧ x < nI m) → Q (.inl (some (.int 0))) (p, q_fl I 1, J, c, w)) : s_c X (d + 10) 302 [.ref (p.1 T_MODEL 0), .int x] (p, I, J, c, w) Q := by
  have hM := hG.1
  have hp := hM.1
  have hk40 := hM.2.1
  have hr10 := hM.2.2.1
  have hnp := hM.2.2.2.1
  refine m_X16_turnTo (Nat.le_of_ble_eq_true rfl) ?_
  show s_w _ _ _ 0 _ _ _ _
  refine w_op (pc' := 1) dX16_turnTo_0 rfl ?_
  refine t_getG0 (G := g_m_list3) dX16_turnTo_1 rfl rfl (by decide) rfl (fun _ => rfl) (hp.1 _ rfl) ?_
  refine w_op (pc' := 5) dX16_turnTo_4 rfl ?_
  refine t_getI (F := f_m_guest) dX16_turnTo_5 rfl rfl (by decide) rfl ⟨rfl, fun _ => rfl⟩ (hp.1 _ rfl) ?_
  rw [eg]
  refine t_callV (t := T_LIST) (As := [_]) dX16_turnTo_8 rfl rM_Jx4a65c_get_915e3 (by decide) rfl rfl (by decide) (by decide) (Nat.le_of_ble_eq_true rfl) rfl (hp.2 _ (by omega)) (c_get5 hp h5 (by decide) hg ?_)
  show s_w _ _ _ 11 _ _ _ _
  refine t_chk dX16_turnTo_11 rfl rfl (by decide) (hp.2 _ (by omega)) ?_
  refine w_op (pc' := 15) (ll' := [_, _, _]) dX16_turnTo_14 rfl ?_
  refine w_op (pc' := 16) dX16_turnTo_15 rfl ?_
  refine w_iconst (v := 0) dX16_turnTo_16 rfl ?_
  refine w_op (pc' := 18) dX16_turnTo_17 rfl ?_
  refine t_callV (t := T_LIST) (As := []) dX16_turnTo_18 rfl rM_Jx4a65c_size_8abf5 (by decide) rfl rfl (by decide) (by decide) (Nat.le_of_ble_eq_true rfl) rfl (hp.2 _ (by omega)) (c_size (hp.2 _ (by omega)) ?_)
  show s_w _ _ _ 21 _ _ _ _
  rw [hm]
  refine w_iconst (v := 1) dX16_turnTo_21 rfl ?_
  refine w_op (pc' := 23) dX16_turnTo_22 rfl ?_
  refine t_callS (As := [_, _, _]) dX16_turnTo_23 rfl rM_X16_in (by decide) rfl rfl (by decide) (Nat.le_of_ble_eq_true rfl) (c_X16_in ?_)
  show s_w _ _ _ 26 _ _ _ _
  refine w_ifeq (t := 48) dX16_turnTo_26 (by decide) (fun c26 => ?_) (fun c26 => ?_)
  · refine w_op (pc' := 49) dX16_turnTo_48 rfl ?_
    refine w_iconst (v := 1) dX16_turnTo_49 rfl ?_
    refine t_callV (t := T_MODEL) (As := [_]) dX16_turnTo_50 rfl rM_X16_fails (by decide) rfl rfl (by decide) (by decide) (Nat.le_of_ble_eq_true rfl) rfl (hp.1 _ rfl) (c_X16_fails hp ?_)
    show s_w _ _ _ 53 _ _ _ _
    exact w_ireturn dX16_turnTo_53 ⟨rfl, kx (fun u => (of_decide_eq_false (bI_0.mp c26)) ⟨u.1, (q_le1 (by omega)).mpr u.2⟩)⟩
  · obtain ⟨t, ht, rfl⟩ : ∃ t, t < m ∧ x = nI t := s_nat (of_decide_eq_true (bI_n0.mp c26)).1 ((q_le1 (by omega)).mp (of_decide_eq_true (bI_n0.mp c26)).2) (by omega)
    obtain ⟨m9, hm9, hL9, hv9⟩ := hF.2 g hg
    have em : m9 = m := (nI_eq (by omega) (by omega)).mp (hL9.2.1.symm.trans hm)
    subst em
    have hv : p.2.1 T_MFRAME (64 * g + t) = true := (hv9 t (by omega)).trans (decide_eq_true ht)
    have hG1 := hG.eqN (s_eqN.qmt (nk := nk) (y := J j_mf_knobs (64 * g + t)) (z := J j_mf_drawn (64 * g + t))) (by decide)
    refine w_op (pc' := 30) dX16_turnTo_29 rfl ?_
    refine w_op (pc' := 31) dX16_turnTo_30 rfl ?_
    refine w_op (pc' := 32) dX16_turnTo_31 rfl ?_
    refine w_op (pc' := 33) dX16_turnTo_32 rfl ?_
    refine t_callV (t := T_LIST) (As := [_]) dX16_turnTo_33 rfl rM_Jx4a65c_get_915e3 (by decide) rfl rfl (by decide) (by decide) (Nat.le_of_ble_eq_true rfl) rfl (hp.2 _ (by omega)) (c_get (hp.2 _ (by omega)) hm (by omega) ht ?_)
    show s_w _ _ _ 36 _ _ _ _
    rw [(e_elF hg).1, (e_elF hg).2]
    refine t_chk dX16_turnTo_36 rfl rfl (by decide) (by assumption) ?_
    refine t_callV (t := T_MODEL) (As := [_]) dX16_turnTo_39 rfl rM_X16_moves_ (by decide) rfl rfl (by decide) (by decide) (Nat.le_of_ble_eq_true rfl) rfl (hp.1 _ rfl) (c_X16_moves_F hM hv ?_)
    show s_w _ _ _ 42 _ _ _ _
    refine t_callV (t := T_MODEL) (As := [_]) dX16_turnTo_42 rfl rM_X16_settled (by decide) rfl rfl (by decide) (by decide) (Nat.le_of_ble_eq_true rfl) rfl (hp.1 _ rfl) (c_X16_settled hG1 hX (fun p1 c1 n1 x1 hL1 hn1 => ?_))
    show s_w _ _ _ 45 _ _ _ _
    refine w_goto (t := 53) dX16_turnTo_45 (by decide) ?_
    exact w_ireturn dX16_turnTo_53 ⟨rfl, k t ht rfl p1 c1 n1 x1 hL1 hn1⟩

set_option maxRecDepth 100000 in
set_option maxHeartbeats 4000000 in
theorem l_X16_cut {X : e_XT} {d : Nat} {p : e_Sp} {I : e_I} {J : e_Jt} {c : Nat × Nat} {w : e_Rw1} {Q : e_Rt → e_SS → Prop} {nk nr np a b n : Nat} (hG : q_G p I c nk nr np a b n) (hX : (X 8).1 = 0) {g m : Nat} (hg : g < 4) (hm : I f_l_size (8 + g) = nI m) {l1 : Option Value} (k : ∀ p' c' n', q_X p p' → q_L p' (q_st nk nr np (I, J)).1 c' a b n' → n' ≤ n + np → Q (.inl (some (.int (nI m)))) (p', q_an (q_st nk nr np (I, J)).1, (q_st nk nr np (I, J)).2, c', w)) : s_w X (d + 10) K_X16_cut 41 [some (.ref (p.1 T_MODEL 0)), l1, some (.ref (p.1 T_LIST (8 + g)))] [] (p, I, J, c, w) (fun r S' => e_rcr (some .int) r = true ∧ Q r S') := by
  have hM := hG.1
  have hp := hM.1
  have hk40 := hM.2.1
  have hr10 := hM.2.2.1
  have hnp := hM.2.2.2.1
  refine w_op (pc' := 42) dX16_cut_41 rfl ?_
  refine w_op (pc' := 43) dX16_cut_42 rfl ?_
  refine t_callV (t := T_LIST) (As := []) dX16_cut_43 rfl rM_Jx4a65c_size_8abf5 (by decide) rfl rfl (by decide) (by decide) (Nat.le_of_ble_eq_true rfl) rfl (hp.2 _ (by omega)) (c_size (hp.2 _ (by omega)) ?_)
  show s_w _ _ _ 46 _ _ _ _
  rw [hm]
  refine t_callV (t := T_MODEL) (As := [_]) dX16_cut_46 rfl rM_X16_settled (by decide) rfl rfl (by decide) (by decide) (Nat.le_of_ble_eq_true rfl) rfl (hp.1 _ rfl) (c_X16_settled hG hX (fun p1 c1 n1 x1 hL1 hn1 => ?_))
  show s_w _ _ _ 49 _ _ _ _
  exact w_ireturn dX16_cut_49 ⟨rfl, k p1 c1 n1 x1 hL1 hn1⟩

set_option maxRecDepth 100000 in
set_option maxHeartbeats 4000000 in
theorem c_X16_cut {X : e_XT} {d : Nat} {p : e_Sp} {I : e_I} {J : e_Jt} {c : Nat × Nat} {w : e_Rw1} {Q : e_Rt → e_SS → Prop} {nk nr np a b n : Nat} (hG : q_G p I c nk nr np a b n) (hX : (X 8).1 = 0) (hF : q_F p I) (h5 : I f_l_size 5 = nI 4) {g m : Nat} (hg : g < 4) (eg : I f_m_guest 0 = nI g) (hm : I f_l_size (8 + g) = nI (m + 1)) (hm20 : m < 20) {x : Int32} (k : ∀ t, t < m + 1 → x = nI t → q_F (s_rmp p g t m) (q_cuI I g t m) → ∀ p' c' n', q_X (s_rmp p g t m) p' → q_L p' (q_st nk nr np (q_cuI I g t m, q_cuJ J g t m)).1 c' a b n' → n' ≤ n + np → Q (.inl (some (.int (nI m)))) (p', q_an (q_st nk nr np (q_cuI I g t m, q_cuJ J g t m)).1, (q_st nk nr np (q_cuI I g t m, q_cuJ J g t m)).2, c', w)) (kx : ¬ (0 ≤ x ∧ x < nI (m + 1)) → Q (.inl (some (.int 0))) (p, q_fl I 1, J, c, w)) : s_c X (d + 10) 301 [.ref (p.1 T_MODEL 0), .int x] (p, I, J, c, w) Q := by
  have hM := hG.1
  have hp := hM.1
  have hk40 := hM.2.1
  have hr10 := hM.2.2.1
  have hnp := hM.2.2.2.1
  refine m_X16_cut (Nat.le_of_ble_eq_true rfl) ?_
  show s_w _ _ _ 0 _ _ _ _
  refine w_op (pc' := 1) dX16_cut_0 rfl ?_
  refine t_getG0 (G := g_m_list3) dX16_cut_1 rfl rfl (by decide) rfl (fun _ => rfl) (hp.1 _ rfl) ?_
  refine w_op (pc' := 5) dX16_cut_4 rfl ?_
  refine t_getI (F := f_m_guest) dX16_cut_5 rfl rfl (by decide) rfl ⟨rfl, fun _ => rfl⟩ (hp.1 _ rfl) ?_
  rw [eg]
  refine t_callV (t := T_LIST) (As := [_]) dX16_cut_8 rfl rM_Jx4a65c_get_915e3 (by decide) rfl rfl (by decide) (by decide) (Nat.le_of_ble_eq_true rfl) rfl (hp.2 _ (by omega)) (c_get5 hp h5 (by decide) hg ?_)
  show s_w _ _ _ 11 _ _ _ _
  refine t_chk dX16_cut_11 rfl rfl (by decide) (hp.2 _ (by omega)) ?_
  refine w_op (pc' := 15) (ll' := [_, _, _]) dX16_cut_14 rfl ?_
  refine w_op (pc' := 16) dX16_cut_15 rfl ?_
  refine w_iconst (v := 0) dX16_cut_16 rfl ?_
  refine w_op (pc' := 18) dX16_cut_17 rfl ?_
  refine t_callV (t := T_LIST) (As := []) dX16_cut_18 rfl rM_Jx4a65c_size_8abf5 (by decide) rfl rfl (by decide) (by decide) (Nat.le_of_ble_eq_true rfl) rfl (hp.2 _ (by omega)) (c_size (hp.2 _ (by omega)) ?_)
  show s_w _ _ _ 21 _ _ _ _
  rw [hm]
  refine w_iconst (v := 1) dX16_cut_21 rfl ?_
  refine w_op (pc' := 23) dX16_cut_22 rfl ?_
  refine t_callS (As := [_, _, _]) dX16_cut_23 rfl rM_X16_in (by decide) rfl rfl (by decide) (Nat.le_of_ble_eq_true rfl) (c_X16_in ?_)
  show s_w _ _ _ 26 _ _ _ _
  refine w_ifne (t := 35) dX16_cut_26 (by decide) (fun c26 => ?_) (fun c26 => ?_)
  · obtain ⟨t, ht, rfl⟩ : ∃ t, t < m + 1 ∧ x = nI t := s_nat (of_decide_eq_true (bI_n0.mp c26)).1 ((q_le1 (by omega)).mp (of_decide_eq_true (bI_n0.mp c26)).2) (by omega)
    have hA : p.2.1 T_LARR (8 + g) = true ∧ m + 1 ≤ p.2.2.1 T_LARR (8 + g) ∧ p.2.2.1 T_LARR (8 + g) < 2147483648 := by
      obtain ⟨m9, hm9, hL9, hv9⟩ := hF.2 g hg
      have em : m9 = m + 1 := (nI_eq (by omega) (by omega)).mp (hL9.2.1.symm.trans hm)
      subst em
      rcases hL9.2.2.2 with h | h
      · omega
      · exact ⟨h.1, h.2.2.1, by have := h.2.2.2; omega⟩
    refine w_op (pc' := 36) dX16_cut_35 rfl ?_
    refine w_op (pc' := 37) dX16_cut_36 rfl ?_
    refine t_callV (t := T_LIST) (As := [_]) dX16_cut_37 rfl rM_Jx4a65c_remove_915e3 (by decide) rfl rfl (by decide) (by decide) (Nat.le_of_ble_eq_true rfl) rfl (hp.2 _ (by omega)) (c_remove hg (hp.2 _ (by omega)) hA.1 hm (by omega) hA.2.1 (by omega) hA.2.2 hF.1 (fun a9 => ?_))
    show s_w _ _ _ 40 _ _ _ _
    refine w_op (pc' := 41) dX16_cut_40 rfl ?_
    have hF3 : q_F (s_rmp p g t m) (q_cuI I g t m) := hF.del hg (by omega) hm (by omega) (fun l hl => q_cuI_l hl) s_up_s
    have hL3 : q_L (s_rmp p g t m) (q_cuI I g t m) (c.1 + 0, c.2 + 0) (a + 0) (b + 0) n := hG.2.2.2.2.2.1.fr (funext fun j => (s_uv_n (fun z => absurd z.1 (by decide))).trans (s_rn_nv (by decide))) ((s_uv_n (fun z => absurd z.1 (by decide))).trans (s_rn_nv (by decide))) ⟨show (s_rn p (s_rj (64 * g) t m) (s_ri (64 * g) t m)).1 T_LARR 4 = _ from s_rn_n (by decide), (s_uv_n (fun z => absurd z.1 (by decide))).trans (s_rn_nv (by decide)), rfl⟩ (q_cuI_l (by omega))
    have hx3 : s_xv q_N2 p (s_rmp p g t m) := s_xv.rn.trans s_xv.uvF
    have hG3 := hG.fr hx3 q_cuI_e (fun l hl => q_cuI_l hl) hL3 hG.2.2.2.2.2.2.1
    exact l_X16_cut (p := (s_rmp p g t m)) (I := q_cuI I g t m) (J := q_cuJ J g t m) hG3 hX hg s_up_s (k t ht rfl hF3)
  · refine w_op (pc' := 30) dX16_cut_29 rfl ?_
    refine w_iconst (v := 1) dX16_cut_30 rfl ?_
    refine t_callV (t := T_MODEL) (As := [_]) dX16_cut_31 rfl rM_X16_fails (by decide) rfl rfl (by decide) (by decide) (Nat.le_of_ble_eq_true rfl) rfl (hp.1 _ rfl) (c_X16_fails hp ?_)
    show s_w _ _ _ 34 _ _ _ _
    exact w_ireturn dX16_cut_34 ⟨rfl, kx (fun u => (of_decide_eq_false (bI_0.mp c26)) ⟨u.1, (q_le1 (by omega)).mpr u.2⟩)⟩

set_option maxRecDepth 100000 in
set_option maxHeartbeats 4000000 in
theorem c_X16_cut0 {X : e_XT} {d : Nat} {p : e_Sp} {I : e_I} {J : e_Jt} {c : Nat × Nat} {w : e_Rw1} {Q : e_Rt → e_SS → Prop} {nk nr np a b n : Nat} (hG : q_G p I c nk nr np a b n) (hX : (X 8).1 = 0) (h5 : I f_l_size 5 = nI 4) {g : Nat} (hg : g < 4) (eg : I f_m_guest 0 = nI g) (hm : I f_l_size (8 + g) = nI 0) {x : Int32} (kx : Q (.inl (some (.int 0))) (p, q_fl I 1, J, c, w)) : s_c X (d + 10) 301 [.ref (p.1 T_MODEL 0), .int x] (p, I, J, c, w) Q := by
  have hM := hG.1
  have hp := hM.1
  have hk40 := hM.2.1
  have hr10 := hM.2.2.1
  have hnp := hM.2.2.2.1
  refine m_X16_cut (Nat.le_of_ble_eq_true rfl) ?_
  show s_w _ _ _ 0 _ _ _ _
  refine w_op (pc' := 1) dX16_cut_0 rfl ?_
  refine t_getG0 (G := g_m_list3) dX16_cut_1 rfl rfl (by decide) rfl (fun _ => rfl) (hp.1 _ rfl) ?_
  refine w_op (pc' := 5) dX16_cut_4 rfl ?_
  refine t_getI (F := f_m_guest) dX16_cut_5 rfl rfl (by decide) rfl ⟨rfl, fun _ => rfl⟩ (hp.1 _ rfl) ?_
  rw [eg]
  refine t_callV (t := T_LIST) (As := [_]) dX16_cut_8 rfl rM_Jx4a65c_get_915e3 (by decide) rfl rfl (by decide) (by decide) (Nat.le_of_ble_eq_true rfl) rfl (hp.2 _ (by omega)) (c_get5 hp h5 (by decide) hg ?_)
  show s_w _ _ _ 11 _ _ _ _
  refine t_chk dX16_cut_11 rfl rfl (by decide) (hp.2 _ (by omega)) ?_
  refine w_op (pc' := 15) (ll' := [_, _, _]) dX16_cut_14 rfl ?_
  refine w_op (pc' := 16) dX16_cut_15 rfl ?_
  refine w_iconst (v := 0) dX16_cut_16 rfl ?_
  refine w_op (pc' := 18) dX16_cut_17 rfl ?_
  refine t_callV (t := T_LIST) (As := []) dX16_cut_18 rfl rM_Jx4a65c_size_8abf5 (by decide) rfl rfl (by decide) (by decide) (Nat.le_of_ble_eq_true rfl) rfl (hp.2 _ (by omega)) (c_size (hp.2 _ (by omega)) ?_)
  show s_w _ _ _ 21 _ _ _ _
  rw [hm]
  refine w_iconst (v := 1) dX16_cut_21 rfl ?_
  refine w_op (pc' := 23) dX16_cut_22 rfl ?_
  refine t_callS (As := [_, _, _]) dX16_cut_23 rfl rM_X16_in (by decide) rfl rfl (by decide) (Nat.le_of_ble_eq_true rfl) (c_X16_in ?_)
  show s_w _ _ _ 26 _ _ _ _
  refine w_ifne (t := 35) dX16_cut_26 (by decide) (fun c26 => ?_) (fun c26 => ?_)
  · exact absurd ((q_le1 (x := x) (n := 0) (by omega)).mp (of_decide_eq_true (bI_n0.mp c26)).2) (Int32.not_lt.mpr (of_decide_eq_true (bI_n0.mp c26)).1)
  · refine w_op (pc' := 30) dX16_cut_29 rfl ?_
    refine w_iconst (v := 1) dX16_cut_30 rfl ?_
    refine t_callV (t := T_MODEL) (As := [_]) dX16_cut_31 rfl rM_X16_fails (by decide) rfl rfl (by decide) (by decide) (Nat.le_of_ble_eq_true rfl) rfl (hp.1 _ rfl) (c_X16_fails hp ?_)
    show s_w _ _ _ 34 _ _ _ _
    exact w_ireturn dX16_cut_34 ⟨rfl, kx⟩

set_option maxRecDepth 100000 in
set_option maxHeartbeats 4000000 in
theorem lz_X16_frame {X : e_XT} {d : Nat} {p : e_Sp} {I : e_I} {J : e_Jt} {c : Nat × Nat} {w : e_Rw1} {Q : e_Rt → e_SS → Prop} {nk nr np a b n : Nat} (hG : q_G p I c nk nr np a b n) (hX : (X 8).1 = 0) {g m : Nat} (hg : g < 4) (hm : I f_l_size (8 + g) = nI m) {l1 l3 l4 : Option Value} (k : ∀ p' c' n', q_X p p' → q_L p' (q_st nk nr np (I, J)).1 c' a b n' → n' ≤ n + np → Q (.inl (some (.int (nI m)))) (p', q_an (q_st nk nr np (I, J)).1, (q_st nk nr np (I, J)).2, c', w)) : s_w X (d + 10) K_X16_frame 90 [some (.ref (p.1 T_MODEL 0)), l1, some (.ref (p.1 T_LIST (8 + g))), l3, l4] [] (p, I, J, c, w) (fun r S' => e_rcr (some .int) r = true ∧ Q r S') := by
  have hM := hG.1
  have hp := hM.1
  have hk40 := hM.2.1
  have hr10 := hM.2.2.1
  have hnp := hM.2.2.2.1
  refine w_op (pc' := 91) dX16_frame_90 rfl ?_
  refine w_op (pc' := 92) dX16_frame_91 rfl ?_
  refine t_callV (t := T_LIST) (As := []) dX16_frame_92 rfl rM_Jx4a65c_size_8abf5 (by decide) rfl rfl (by decide) (by decide) (Nat.le_of_ble_eq_true rfl) rfl (hp.2 _ (by omega)) (c_size (hp.2 _ (by omega)) ?_)
  show s_w _ _ _ 95 _ _ _ _
  rw [hm]
  refine t_callV (t := T_MODEL) (As := [_]) dX16_frame_95 rfl rM_X16_settled (by decide) rfl rfl (by decide) (by decide) (Nat.le_of_ble_eq_true rfl) rfl (hp.1 _ rfl) (c_X16_settled hG hX (fun p1 c1 n1 x1 hL1 hn1 => ?_))
  show s_w _ _ _ 98 _ _ _ _
  exact w_ireturn dX16_frame_98 ⟨rfl, k p1 c1 n1 x1 hL1 hn1⟩

set_option maxRecDepth 100000 in
set_option maxHeartbeats 4000000 in
theorem l_X16_frame {X : e_XT} {d : Nat} {p : e_Sp} {I : e_I} {J : e_Jt} {c : Nat × Nat} {w : e_Rw1} {Q : e_Rt → e_SS → Prop} {nk nr np : Nat} (hM : q_D p I nk nr np) {g m : Nat} (hv : p.2.1 T_MFRAME (64 * g + m) = true) {l1 : Option Value} {R9 : e_Jt} (hk : ∀ o4, s_w X (d + 10) K_X16_frame 84 [some (.ref (p.1 T_MODEL 0)), l1, some (.ref (p.1 T_LIST (8 + g))), some (.ref (p.1 T_MFRAME (64 * g + m))), o4] [] (p, I, R9, c, w) (fun r S' => e_rcr (some .int) r = true ∧ Q r S')) : ∀ (n : Nat) (i : Nat) (J1 : e_Jt), (h1 : i ≤ nk) → (hr : s_run (q_keJ j_mf_knobs j_mf_drawn I (64 * g + m)) i (nk - i) J1 = R9) → (hn : nk - i < n) → s_w X (d + 10) K_X16_frame 59 [some (.ref (p.1 T_MODEL 0)), l1, some (.ref (p.1 T_LIST (8 + g))), some (.ref (p.1 T_MFRAME (64 * g + m))), some (.int (nI i))] [] (p, I, J1, c, w) (fun r S' => e_rcr (some FieldType.int) r = true ∧ Q r S') := by
  intro n
  induction n with
  | zero =>
    intro i J1 h1 hr hn
    exact absurd hn (Nat.not_lt_zero _)
  | succ n ih =>
    intro i J1 h1 hr hn
    have hp := hM.1
    have hk40 := hM.2.1
    have hr10 := hM.2.2.1
    refine w_op (pc' := 61) dX16_frame_59 rfl ?_
    refine w_op (pc' := 62) dX16_frame_61 rfl ?_
    refine t_getG0 (G := g_m_list1) dX16_frame_62 rfl rfl (by decide) rfl (fun _ => rfl) (hp.1 _ rfl) ?_
    refine t_callV (t := T_LIST) (As := []) dX16_frame_65 rfl rM_Jx4a65c_size_8abf5 (by decide) rfl rfl (by decide) (by decide) (Nat.le_of_ble_eq_true rfl) rfl (hp.2 _ (by decide)) (c_size (hp.2 _ (by decide)) ?_)
    show s_w _ _ _ 68 _ _ _ _
    rw [hk40.2]
    refine w_icmpge (t := 84) dX16_frame_68 (by decide) (fun c68 => ?_) (fun c68 => ?_)
    · have hi := (nI_leI (by omega) (by omega)).mp c68
      rw [s_run_z hi] at hr; subst hr; exact hk _
    · have hi : i < nk := Nat.lt_of_not_le (fun t => c68 ((nI_leI (by omega) (by omega)).mpr t))
      refine w_op (pc' := 72) dX16_frame_71 rfl ?_
      refine w_op (pc' := 73) dX16_frame_72 rfl ?_
      refine w_op (pc' := 75) dX16_frame_73 rfl ?_
      refine t_callV (t := T_MODEL) (As := [_, _]) dX16_frame_75 rfl rM_X16_keeps (by decide) rfl rfl (by decide) (by decide) (Nat.le_of_ble_eq_true rfl) rfl (hp.1 _ rfl) (c_X16_keepsF hM hv hi ?_)
      show s_w _ _ _ 78 _ _ _ _
      refine w_op (pc' := 81) (ll' := [_, _, _, _, _]) dX16_frame_78 rfl ?_
      refine w_goto (t := 59) dX16_frame_81 (by decide) ?_
      rw [show nI i + Int32.ofInt 1 = nI (i + 1) from nI_1 i]
      rw [s_run_s hi] at hr
      exact ih (i + 1) _ (by omega) hr (by omega)
set_option maxRecDepth 100000 in
set_option maxHeartbeats 4000000 in
theorem la_X16_frame {X : e_XT} {d : Nat} {p : e_Sp} {I : e_I} {J : e_Jt} {c : Nat × Nat} {w : e_Rw1} {Q : e_Rt → e_SS → Prop} {nk nr np a b n g t m : Nat} {p0 : e_Sp} {c0 : Nat × Nat} (hg : g < 4) (ht : t ≤ m) (hm20 : m < 20) (hp : s_ok p) (hF0 : q_F p0 I) (hL0 : q_L p0 I c0 a b n) (hx0 : s_xv (q_N3 g m) p0 p) (hm : I f_l_size (8 + g) = nI m) (hL : s_La p I (8 + g) m) (hO : q_O p I) (hX : (X 8).1 = 0) (hv : p.2.1 T_MFRAME (64 * g + m) = true) (hc : c = (c0.1 + 1, c0.2 + 3)) (hc9 : c0.1 + 1 < e_xb) {l4 : Option Value} (hk3 : ∀ p3 c3 a3 b3, s_xv q_N2 p0 p3 → q_L p3 (s_adF I g t m) c3 a3 b3 n → a3 ≤ a + 2 → q_G p3 (s_adF I g t m) c3 nk nr np a3 b3 n) (k : ∀ p3 x9 y9, x9 ≤ 2 → y9 ≤ 40 → s_xv q_N2 p0 p3 → q_F p3 (s_adF I g t m) → ∀ p' c' n', q_X p3 p' → q_L p' (q_st nk nr np (s_adF I g t m, s_rnJ J (s_ri (64 * g) t m))).1 c' (a + x9) (b + y9) n' → n' ≤ n + np → Q (.inl (some (.int (nI (m + 1))))) (p', q_an (q_st nk nr np (s_adF I g t m, s_rnJ J (s_ri (64 * g) t m))).1, (q_st nk nr np (s_adF I g t m, s_rnJ J (s_ri (64 * g) t m))).2, c', w)) : s_w X (d + 10) K_X16_frame 84 [some (.ref (p.1 T_MODEL 0)), some (.int (nI t)), some (.ref (p.1 T_LIST (8 + g))), some (.ref (p.1 T_MFRAME (64 * g + m))), l4] [] (p, I, J, c, w) (fun r S' => e_rcr (some .int) r = true ∧ Q r S') := by
  subst hc
  have h4g : q_N3 g m T_LARR 4 = false := q_N3_f (Or.inl (by decide)) (Or.inr (by omega))
  refine w_op (pc' := 85) dX16_frame_84 rfl ?_
  refine w_op (pc' := 86) dX16_frame_85 rfl ?_
  refine w_op (pc' := 87) dX16_frame_86 rfl ?_
  refine t_callV (t := T_LIST) (As := [_, _]) dX16_frame_87 rfl rM_Jx4a65c_add_7a177 (by decide) rfl rfl (by decide) (by decide) (Nat.le_of_ble_eq_true rfl) rfl (hp.2 _ (by omega)) (c_addAt (t := t) hg hL ht (by omega) hv hO hX (by omega) (fun hA hA10 hlt hle => ?_) (fun hAB b9 hb9 => ?_))
  · show s_w _ _ _ 90 _ _ _ _
    have hx2 : s_xv (q_N3 g m) p0 p := hx0
    have hF3 : q_F (s_adp p g t m) (s_adF I g t m) := q_F.ins (I := I) (I3 := s_adF I g t m) hF0 hg hm20 ht hm hx2 (hv) ⟨hA, hA10, hlt, hle⟩ (fun l hl => s_adF_l hl) s_up_s
    have hx3 : s_xv q_N2 p0 (s_adp p g t m) := (q_N3_2 hx2).trans s_xv.rn
    have e9 : ∀ i, q_N3 g m T_MKEPT i = false := fun i => q_N3_t (by decide) (by decide)
    have hL3 : q_L (s_adp p g t m) (s_adF I g t m) (c0.1 + 1, c0.2 + 3) (a + 1) (b + 3) n := hL0.fr (funext fun j => (s_rn_nv (by decide)).trans (hx2.1 T_MKEPT j (e9 j)).2.1) ((s_rn_nv (by decide)).trans (hx2.1 T_LIST 4 (q_N3_t (by decide) (by decide))).2.1) ⟨(s_rn_n (by decide)).trans (hx2.1 T_LARR 4 h4g).1, (s_rn_nv (by decide)).trans (hx2.1 T_LARR 4 h4g).2.1, (hx2.1 T_LARR 4 h4g).2.2⟩ (s_adF_l (by omega))
    exact lz_X16_frame (p := s_adp p g t m) (hk3 _ _ _ _ hx3 hL3 (by omega)) hX hg s_up_s (k _ 1 3 (by omega) (by omega) hx3 hF3)
  · show s_w _ _ _ 90 _ _ _ _
    have hcap : m + 1 ≤ s_cap m ∧ 10 ≤ s_cap m ∧ s_cap m ≤ 30 := by (unfold s_cap; split <;> omega)
    have eln : (s_pv p T_LARR (8 + g) b9 (s_cap m)).2.2.1 T_LARR (8 + g) = s_cap m := if_pos ⟨rfl, rfl⟩
    have hx2 : s_xv (q_N3 g m) p0 (s_pv p T_LARR (8 + g) b9 (s_cap m)) := hx0.trans (s_xv.pv q_N3_1.2)
    have hF3 : q_F (s_adp (s_pv p T_LARR (8 + g) b9 (s_cap m)) g t m) (s_adF I g t m) := q_F.ins (I := I) (I3 := s_adF I g t m) hF0 hg hm20 ht hm hx2 (s_pv_k hv) ⟨s_pv_v, by rw [eln]; exact hcap.2.1, by rw [eln]; exact hcap.1, by rw [eln]; omega⟩ (fun l hl => s_adF_l hl) s_up_s
    have hx3 : s_xv q_N2 p0 (s_adp (s_pv p T_LARR (8 + g) b9 (s_cap m)) g t m) := (q_N3_2 hx2).trans s_xv.rn
    have e9 : ∀ i, q_N3 g m T_MKEPT i = false := fun i => q_N3_t (by decide) (by decide)
    have hL3 : q_L (s_adp (s_pv p T_LARR (8 + g) b9 (s_cap m)) g t m) (s_adF I g t m) (c0.1 + 2, c0.2 + (3 + s_cap m)) (a + 2) (b + (3 + s_cap m)) n := hL0.fr (funext fun j => (s_rn_nv (by decide)).trans (hx2.1 T_MKEPT j (e9 j)).2.1) ((s_rn_nv (by decide)).trans (hx2.1 T_LIST 4 (q_N3_t (by decide) (by decide))).2.1) ⟨(s_rn_n (by decide)).trans (hx2.1 T_LARR 4 h4g).1, (s_rn_nv (by decide)).trans (hx2.1 T_LARR 4 h4g).2.1, (hx2.1 T_LARR 4 h4g).2.2⟩ (s_adF_l (by omega))
    refine w_show (S' := (s_adp (s_pv p T_LARR (8 + g) b9 (s_cap m)) g t m, s_adF I g t m, s_rnJ J (s_ri (64 * g) t m), (c0.1 + 2, c0.2 + (3 + s_cap m)), w)) (congrArg (fun z => (s_adp (s_pv p T_LARR (8 + g) b9 (s_cap m)) g t m, s_adF I g t m, s_rnJ J (s_ri (64 * g) t m), (c0.1 + 2, z), w)) (Nat.add_assoc _ _ _)) ?_
    exact lz_X16_frame (p := s_adp (s_pv p T_LARR (8 + g) b9 (s_cap m)) g t m) (hk3 _ _ _ _ hx3 hL3 (by omega)) hX hg s_up_s (k _ 2 (3 + s_cap m) (by omega) (by omega) hx3 hF3)

set_option maxRecDepth 100000 in
set_option maxHeartbeats 4000000 in
theorem c_X16_frame {X : e_XT} {d : Nat} {p : e_Sp} {I : e_I} {J : e_Jt} {c : Nat × Nat} {w : e_Rw1} {Q : e_Rt → e_SS → Prop} {nk nr np a b n : Nat} (hG : q_G p I c nk nr np a b n) (hX : (X 8).1 = 0) (hF : q_F p I) (h5 : I f_l_size 5 = nI 4) {g m : Nat} (hg : g < 4) (eg : I f_m_guest 0 = nI g) (hm : I f_l_size (8 + g) = nI m) (hm20 : m ≤ 20) (hc : c.1 + 4 < e_xb) (ha : a + 2 + n + 100000000 < 4294960000) {x : Int32} (k : ∀ t, t ≤ m → x = nI t → m < 20 → ∀ p3 x9 y9, x9 ≤ 2 → y9 ≤ 40 → s_xv q_N2 p p3 → q_F p3 (q_fmI I g t m) → ∀ p' c' n', q_X p3 p' → q_L p' (q_st nk nr np (q_fmI I g t m, q_fmJ I J nk g t m)).1 c' (a + x9) (b + y9) n' → n' ≤ n + np → Q (.inl (some (.int (nI (m + 1))))) (p', q_an (q_st nk nr np (q_fmI I g t m, q_fmJ I J nk g t m)).1, (q_st nk nr np (q_fmI I g t m, q_fmJ I J nk g t m)).2, c', w)) (kx : ¬ (0 ≤ x ∧ x ≤ nI m) → Q (.inl (some (.int 0))) (p, q_fl I 1, J, c, w)) (kx2 : 0 ≤ x ∧ x ≤ nI m → m = 20 → Q (.inl (some (.int 0))) (p, q_fl I 2, J, c, w)) : s_c X (d + 10) 300 [.ref (p.1 T_MODEL 0), .int x] (p, I, J, c, w) Q := by
  have hM := hG.1
  have hp := hM.1
  have hk40 := hM.2.1
  have hr10 := hM.2.2.1
  have hnp := hM.2.2.2.1
  refine m_X16_frame (Nat.le_of_ble_eq_true rfl) ?_
  show s_w _ _ _ 0 _ _ _ _
  refine w_op (pc' := 1) dX16_frame_0 rfl ?_
  refine t_getG0 (G := g_m_list3) dX16_frame_1 rfl rfl (by decide) rfl (fun _ => rfl) (hp.1 _ rfl) ?_
  refine w_op (pc' := 5) dX16_frame_4 rfl ?_
  refine t_getI (F := f_m_guest) dX16_frame_5 rfl rfl (by decide) rfl ⟨rfl, fun _ => rfl⟩ (hp.1 _ rfl) ?_
  rw [eg]
  refine t_callV (t := T_LIST) (As := [_]) dX16_frame_8 rfl rM_Jx4a65c_get_915e3 (by decide) rfl rfl (by decide) (by decide) (Nat.le_of_ble_eq_true rfl) rfl (hp.2 _ (by omega)) (c_get5 hp h5 (by decide) hg ?_)
  show s_w _ _ _ 11 _ _ _ _
  refine t_chk dX16_frame_11 rfl rfl (by decide) (hp.2 _ (by omega)) ?_
  refine w_op (pc' := 15) (ll' := [_, _, _, _, _]) dX16_frame_14 rfl ?_
  refine w_op (pc' := 16) dX16_frame_15 rfl ?_
  refine w_iconst (v := 0) dX16_frame_16 rfl ?_
  refine w_op (pc' := 18) dX16_frame_17 rfl ?_
  refine t_callV (t := T_LIST) (As := []) dX16_frame_18 rfl rM_Jx4a65c_size_8abf5 (by decide) rfl rfl (by decide) (by decide) (Nat.le_of_ble_eq_true rfl) rfl (hp.2 _ (by omega)) (c_size (hp.2 _ (by omega)) ?_)
  show s_w _ _ _ 21 _ _ _ _
  rw [hm]
  refine t_callS (As := [_, _, _]) dX16_frame_21 rfl rM_X16_in (by decide) rfl rfl (by decide) (Nat.le_of_ble_eq_true rfl) (c_X16_in ?_)
  show s_w _ _ _ 24 _ _ _ _
  refine w_ifne (t := 33) dX16_frame_24 (by decide) (fun c24 => ?_) (fun c24 => ?_)
  · obtain ⟨t, ht, rfl⟩ := q_rg (m := m) (of_decide_eq_true (bI_n0.mp c24)).1 (of_decide_eq_true (bI_n0.mp c24)).2 (by omega)
    refine w_op (pc' := 34) dX16_frame_33 rfl ?_
    refine t_callV (t := T_LIST) (As := []) dX16_frame_34 rfl rM_Jx4a65c_size_8abf5 (by decide) rfl rfl (by decide) (by decide) (Nat.le_of_ble_eq_true rfl) rfl (hp.2 _ (by omega)) (c_size (hp.2 _ (by omega)) ?_)
    show s_w _ _ _ 37 _ _ _ _
    rw [hm]
    refine w_bipush (v := 20) dX16_frame_37 rfl ?_
    refine w_icmpne (t := 48) dX16_frame_39 (by decide) (fun c39 => ?_) (fun c39 => ?_)
    · have hm20 : m < 20 := by
        rcases Nat.lt_or_ge m 20 with h | h
        · exact h
        · exact absurd (show nI m = 20 by rw [show m = 20 by omega]; rfl) c39
      refine t_new dX16_frame_48 rfl (show c.1 < e_xb by omega) (fun a9 ha9 => ?_)
      refine w_op (pc' := 52) dX16_frame_51 rfl ?_
      refine t_callI (As := []) dX16_frame_52 rfl rM_X12_init (by decide) (by decide) rfl rfl rfl (Nat.le_of_ble_eq_true rfl) (c_X12_init ?_)
      refine ⟨rfl, ?_⟩
      refine w_op (pc' := 56) (ll' := [_, _, _, _, _]) dX16_frame_55 rfl ?_
      refine w_iconst (v := 0) dX16_frame_56 rfl ?_
      refine w_op (pc' := 59) (ll' := [_, _, _, _, _]) dX16_frame_57 rfl ?_
      obtain ⟨m9, hm9, hL9, hv9⟩ := hF.2 g hg
      have em : m9 = m := (nI_eq (by omega) (by omega)).mp (hL9.2.1.symm.trans hm)
      subst em
      have hnv : p.2.1 T_MFRAME (64 * g + m9) = false := (hv9 m9 (by omega)).trans (decide_eq_false (by omega))
      refine w_ghost (S' := ((s_pv p T_MFRAME (64 * g + m9) a9 0), (s_IMFRAME I (64 * g + m9) 0), s_JMFRAME J (64 * g + m9) 0 0, (c.1 + 1, c.2 + 3), w)) (fun h hs => hs.pubMFRAME hnv ha9.1 rfl rfl rfl) ?_
      generalize hJ9 : s_run (q_keJ j_mf_knobs j_mf_drawn (s_IMFRAME I (64 * g + m9) 0) (64 * g + m9)) 0 nk (s_JMFRAME J (64 * g + m9) 0 0) = J9
      have hI1 : s_eqN q_fT I (s_IMFRAME I (64 * g + m9) 0) := s_eqN.up (by decide)
      have hl1 : ∀ l, (s_IMFRAME I (64 * g + m9) 0) f_l_size l = I f_l_size l := fun l => s_up_F (by decide)
      have hx1 : s_xv (q_N3 g m9) p (s_pv p T_MFRAME (64 * g + m9) a9 0) := s_xv.pv q_N3_1.1
      have hM1 : q_D (s_pv p T_MFRAME (64 * g + m9) a9 0) (s_IMFRAME I (64 * g + m9) 0) nk nr np := hG.1.w (fun t i ht => (hx1.1 t i (q_N3_t (fun z => by rw [z] at ht; exact absurd ht (by decide)) (fun z => by rw [z] at ht; exact absurd ht (by decide)))).2.1) (fun F hF => hI1 F (q_fT2 hF)) (hl1 3) (hl1 2)
      have e1 : (s_pv p T_MFRAME (64 * g + m9) a9 0).1 T_MFRAME (64 * g + m9) = a9 := s_pv_s
      have e2 : (s_pv p T_MFRAME (64 * g + m9) a9 0).1 T_MODEL 0 = p.1 T_MODEL 0 := s_pv_n (fun z => absurd z.1 (by decide))
      have e3 : (s_pv p T_MFRAME (64 * g + m9) a9 0).1 T_LIST (8 + g) = p.1 T_LIST (8 + g) := s_pv_n (fun z => absurd z.1 (by decide))
      have h2 : s_w X (d + 10) K_X16_frame 59 [some (.ref ((s_pv p T_MFRAME (64 * g + m9) a9 0).1 T_MODEL 0)), some (.int (nI t)), some (.ref ((s_pv p T_MFRAME (64 * g + m9) a9 0).1 T_LIST (8 + g))), some (.ref ((s_pv p T_MFRAME (64 * g + m9) a9 0).1 T_MFRAME (64 * g + m9))), some (.int (nI 0))] [] ((s_pv p T_MFRAME (64 * g + m9) a9 0), (s_IMFRAME I (64 * g + m9) 0), s_JMFRAME J (64 * g + m9) 0 0, (c.1 + 1, c.2 + 3), w) (fun r S' => e_rcr (some .int) r = true ∧ Q r S') := by
        refine l_X16_frame (J := J) (I := (s_IMFRAME I (64 * g + m9) 0)) hM1 s_pv_v (R9 := J9) (fun o4 => ?_) (nk + 1) 0 _ (Nat.zero_le _) hJ9 (by omega)
        have hF0 : q_F p (s_IMFRAME I (64 * g + m9) 0) := by
          refine ⟨fun l hl => by rw [hl1]; exact hF.1 l hl, fun u hu => ?_⟩
          obtain ⟨m8, h1, h2, h3⟩ := hF.2 u hu
          exact ⟨m8, h1, ⟨h2.1, (hl1 _).trans h2.2.1, h2.2.2⟩, h3⟩
        refine la_X16_frame (p := (s_pv p T_MFRAME (64 * g + m9) a9 0)) (I := (s_IMFRAME I (64 * g + m9) 0)) (J := J9) (p0 := p) (c0 := c) (a := a) (b := b) (n := n) (nk := nk) (nr := nr) (np := np) hg ht hm20 (hM1.1) hF0 (hG.2.2.2.2.2.1.eq (hl1 4)) hx1 ((hl1 _).trans hm) ?_ ?_ hX s_pv_v rfl (by omega) (fun p3 c3 a3 b3 hx3 hL3 h3 => ?_) (fun p3 x9 y9 h1 h2 h3 h4 p' c' n' h5 h6 h7 => ?_)
        · have xl := hx1.1 T_LARR (8 + g)
          unfold s_La at hL9 ⊢
          rw [hl1, s_pv_nv (fun z => absurd z.1 (by decide)), s_pv_n (t' := T_LARR) (fun z => absurd z.1 (by decide)), s_pv_nv (t' := T_LARR) (fun z => absurd z.1 (by decide)), s_pv_nl (t' := T_LARR) (fun z => absurd z.1 (by decide))]
          exact hL9
        · exact fun l hl => by rw [hl1]; exact hF.1 l (by rw [s_pv_nv (fun z => absurd z.1 (by decide))] at hl; exact hl)
        · exact hG.fr (g := g) hx3 q_fmI_e (fun l hl => q_fmI_l hl) hL3 (by omega)
        · have eJ : s_rnJ J9 (s_ri (64 * g) t m9) = q_fmJ I J nk g t m9 := by unfold q_fmJ; rw [hJ9]
          rw [eJ] at h6 ⊢
          exact k t ht rfl hm20 p3 x9 y9 h1 h2 h3 h4 p' c' n' h5 h6 h7
      rw [e1, e2, e3, nI_0] at h2
      exact h2
    · refine w_op (pc' := 43) dX16_frame_42 rfl ?_
      refine w_iconst (v := 2) dX16_frame_43 rfl ?_
      refine t_callV (t := T_MODEL) (As := [_]) dX16_frame_44 rfl rM_X16_fails (by decide) rfl rfl (by decide) (by decide) (Nat.le_of_ble_eq_true rfl) rfl (hp.1 _ rfl) (c_X16_fails hp ?_)
      show s_w _ _ _ 47 _ _ _ _
      exact w_ireturn dX16_frame_47 ⟨rfl, kx2 (of_decide_eq_true (bI_n0.mp c24)) (by have := (nI_eq (b := 20) (by omega) (by decide)).mp c39; exact this)⟩
  · refine w_op (pc' := 28) dX16_frame_27 rfl ?_
    refine w_iconst (v := 1) dX16_frame_28 rfl ?_
    refine t_callV (t := T_MODEL) (As := [_]) dX16_frame_29 rfl rM_X16_fails (by decide) rfl rfl (by decide) (by decide) (Nat.le_of_ble_eq_true rfl) rfl (hp.1 _ rfl) (c_X16_fails hp ?_)
    show s_w _ _ _ 32 _ _ _ _
    exact w_ireturn dX16_frame_32 ⟨rfl, kx (fun u => (of_decide_eq_false (bI_0.mp c24)) u)⟩

