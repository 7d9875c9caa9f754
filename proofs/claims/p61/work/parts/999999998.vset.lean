/-! 999999998: setting a piston -/
def v_cin (I : e_I) (x : Int32) (i : Nat) : Bool := decide (if x = -1 then ¬ I f_mk_isIn i = 0 else I f_mk_kind i = 115 ∧ I f_mk_division i = x)
theorem v_kset {I I' : e_I} {nk v c q : Nat} {x : Int32} (hK : v_Kn I I' nk) (hs : v_eq nk f_k_isInScope f_mk_isIn I I') (hP : v_Pc v x c q) : s_kset I nk x = v_OR (v_cin I' x) nk := by
  unfold s_kset
  rcases hP with ⟨rfl, -⟩ | ⟨u, y, hu, hy, rfl, -⟩
  · rw [if_neg (by decide), v_ks]
    refine v_ORc (fun i hi => ?_)
    unfold v_cin
    rw [hs i hi]
    by_cases e : I' f_mk_isIn i = 0
    · rw [decide_eq_true e]; simp [e]
    · rw [decide_eq_false e]; simp [e]
  · have h0 : 0 ≤ nI u := nI_pos' (by omega)
    have h1 : ¬ nI u = -1 := fun w => by rw [w] at h0; exact absurd h0 (by decide)
    rw [if_pos h0, v_sof]
    refine v_ORc (fun i hi => ?_)
    unfold v_cin
    have e := (hK.2 i hi).1
    rw [e.1, e.2.1]
    simp only [if_neg h1]
theorem v_kda {I I' : e_I} {nk : Nat} {c : Nat → Bool} (hK : v_Kn I I' nk) : s_da I nk (v_OR c nk) = v_OR (fun i => c i && !decide (I' f_mk_isDrawn i = 0)) nk := by
  rw [v_da hK.1.2]
  refine v_ORc (fun i hi => ?_)
  rw [(hK.2 i hi).1.2.2.1, Bool.and_comm]
theorem a_set {p : e_Sp} {nk nr np n s m L : Nat} {t : Nat → Nat} {I I' : e_I} {J J' : e_Jt} {x y : Int32} (h : v_Sim p nk nr np n t s m L (I, J) (I', J')) (hq : q_ps x y = true) : v_Sim p nk nr np n t s m L (s_kpI I (s_plo x y), s_kpJ I J (s_plo x y) (s_kset I nk x) (s_da I nk (s_kset I nk x))) (q_st nk nr np (s_up I' f_mg_isSet (q_kp I' x y) 1, s_run (q_seF (s_up I' f_mg_isSet (q_kp I' x y) 1) x (q_kp I' x y)) 0 nk (s_up (s_up J' j_mg_knobs (q_kp I' x y) 0) j_mg_drawn (q_kp I' x y) 0))) ∧ s_da I nk (s_kset I nk x) = s_run (q_seF (s_up I' f_mg_isSet (q_kp I' x y) 1) x (q_kp I' x y)) 0 nk (s_up (s_up J' j_mg_knobs (q_kp I' x y) 0) j_mg_drawn (q_kp I' x y) 0) j_mg_drawn (q_kp I' x y) := by
  obtain ⟨hB, z1, z2, z3, z4, z5, z6⟩ := h
  dsimp only at z1 z2 z3 z4 z5 z6
  obtain ⟨v, hv, l1, l2⟩ := z2.2.1
  obtain ⟨g1, c, hc80, g2, hP⟩ := v_place hv l1 l2 hq
  have hK : v_Kn I I' nk := hB.1.1.2.1
  generalize q_kp I' x y = q at *
  have eI : s_kpI I (s_plo x y) = s_up I f_a_isSet c 1 := by
    unfold s_kpI
    rw [g2, if_neg (nI_pos (by omega)), nI_clamp (by omega)]
  have eJ : ∀ Y Z, s_kpJ I J (s_plo x y) Y Z = s_up (s_up J j_a_kept c Y) j_a_drawn c Z := fun Y Z => by
    unfold s_kpJ
    rw [g2, if_neg (nI_pos (by omega)), nI_clamp (by omega)]
  have e : s_eqN [f_a_isSet] I (s_up I f_a_isSet c 1) := s_eqN.up (by decide)
  have e' : s_eqN [f_mg_isSet] I' (s_up I' f_mg_isSet q 1) := s_eqN.up (by decide)
  rw [eI, eJ, v_kset hK z1.2.2.2.2.2.2 hP, v_kda hK]
  have hrun := v_keep9 (kn := j_mg_knobs) (dn := j_mg_drawn) (j := q) (I := s_up I' f_mg_isSet q 1) (c := v_cin I' x) (f := q_seF (s_up I' f_mg_isSet q 1) x q) (by decide) (fun i J => by
    unfold q_seF v_cin
    rw [e' f_mk_isIn (by decide), e' f_mk_kind (by decide), e' f_mk_division (by decide)]
    by_cases e9 : (if x = -1 then ¬ I' f_mk_isIn i = 0 else I' f_mk_kind i = 115 ∧ I' f_mk_division i = x)
    · rw [if_pos e9, if_pos (decide_eq_true e9)]
    · rw [if_neg e9, if_neg (by rw [decide_eq_true_iff]; exact e9)]) (s_up (s_up J' j_mg_knobs q 0) j_mg_drawn q 0) (by rw [s_up_F (by decide), s_up_s]) s_up_s nk
  generalize s_run (q_seF (s_up I' f_mg_isSet q 1) x q) 0 nk (s_up (s_up J' j_mg_knobs q 0) j_mg_drawn q 0) = D at *
  obtain ⟨d1, d2, d3⟩ := hrun
  rw [e' f_mk_isDrawn (by decide)] at d2
  have d4 : ∀ F, F ≠ j_mg_knobs → F ≠ j_mg_drawn → D F = J' F := fun F h1 h2 => by
    funext i
    rw [d3 F i (fun w => h1 w.1) (fun w => h2 w.1), s_up_F h2, s_up_F h1]
  refine ⟨v_quietS hB e e' (by decide) (by decide) ?_ (d4 _ (by decide) (by decide)) (d4 _ (by decide) (by decide)) ⟨z1.N e e' (by decide) (by decide), z2.N e e' (by decide) (by decide), z3.N e e' (by decide) (by decide), z4.N e e' (by decide) (by decide), z5.frame e e' (by decide) (by decide), ?_⟩, d2.symm⟩
  · funext i
    rw [s_up_F (by decide), s_up_F (by decide)]
  · refine v_Z6.set hv hP z6 v_upv v_upv (e f_a_frameCounts (by decide)) (e' f_l_size (by decide)) (fun i hi => ⟨?_, ?_⟩) (fun i hi => ⟨?_, ?_⟩) ⟨?_, ?_⟩ ⟨?_, ?_⟩ ⟨d4 _ (by decide) (by decide), d4 _ (by decide) (by decide)⟩
    · dsimp only; rw [s_up_F (by decide), s_up_i hi]
    · dsimp only; rw [s_up_i hi, s_up_F (by decide)]
    · dsimp only; rw [d3 _ i (fun w => hi w.2) (fun w => hi w.2), s_up_F (by decide), s_up_i hi]
    · dsimp only; rw [d3 _ i (fun w => hi w.2) (fun w => hi w.2), s_up_i hi, s_up_F (by decide)]
    · dsimp only; rw [s_up_F (by decide), s_up_s, d1]
    · dsimp only; rw [s_up_s, d2]
    · dsimp only; funext i; rw [s_up_F (by decide), s_up_F (by decide)]
    · dsimp only; funext i; rw [s_up_F (by decide), s_up_F (by decide)]
/-- what is kept at a piston, both sides -/
theorem v_pushed {p : e_Sp} {nk nr np n s m L : Nat} {t : Nat → Nat} {a b : e_I × e_Jt} {x y : Int32} (h : v_Sim p nk nr np n t s m L a b) (hq : q_ps x y = true) : (s_isk5 a.1 (s_plo x y) = true ↔ ¬ b.1 f_mg_isSet (q_kp b.1 x y) = 0) ∧ s_kby j_a_kept a.1 a.2 (s_plo x y) = b.2 j_mg_knobs (q_kp b.1 x y) ∧ s_kby j_a_drawn a.1 a.2 (s_plo x y) = b.2 j_mg_drawn (q_kp b.1 x y) := by
  obtain ⟨v, hv, l1, l2⟩ := h.2.2.1.2.1
  obtain ⟨g1, c, hc80, g2, hP⟩ := v_place hv l1 l2 hq
  obtain ⟨k1, k2, k3⟩ := hP.kq hv h.2.2.2.2.2.2
  unfold s_isk5 s_kby
  rw [g2, decide_eq_false (nI_pos (n := c) (by omega)), if_neg (nI_pos (by omega)), if_neg (nI_pos (by omega)), nI_clamp (by omega), k1, k2, k3]
  refine ⟨?_, rfl, rfl⟩
  simp
/-- a reversible -/
theorem v_rvk {p : e_Sp} {nk nr np n s m L r : Nat} {t : Nat → Nat} {a b : e_I × e_Jt} (h : v_Sim p nk nr np n t s m L a b) (hr : r < 4) : s_rvk a.1 (nI r) = b.1 f_m_reversible (q_ri b.1 (nI r)) ∧ (b.1 f_m_reversible (q_ri b.1 (nI r)) = -1 ∨ ∃ k, k < nk ∧ b.1 f_m_reversible (q_ri b.1 (nI r)) = nI k) ∧ ∃ v, v < 4 ∧ q_ri b.1 (nI r) = v * 4 + r ∧ a.1 f_level 0 = nI v := by
  obtain ⟨v, hv, l1, l2⟩ := h.2.2.1.2.1
  have e1 : q_ri b.1 (nI r) = v * 4 + r := by
    show (4 * b.1 f_m_level 0 + nI r).toNatClampNeg = _
    rw [l2, show (4 : Int32) = nI 4 from rfl, pk_mul, nI_add, nI_clamp (by omega)]
    omega
  have e2 : s_rvk a.1 (nI r) = a.1 f_a_reversibles (v * 4 + r) := by
    unfold s_rvk
    rw [if_pos ⟨nI_pos' (by omega), nI_lt (b := 4) hr (by decide)⟩, l1, show (4 : Int32) = nI 4 from rfl, pk_mul, nI_add, nI_clamp (by omega)]
  have := h.2.2.1.2.2.2.2 (v * 4 + r) (by omega)
  rw [e1, e2]
  exact ⟨this.1, this.2, v, hv, rfl, l1⟩
