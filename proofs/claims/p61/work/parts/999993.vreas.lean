/-! 999993: what is found is what is counted, the end -/
theorem v_egs {I : e_I} {x h : Int32} : ∀ n, n ≤ 61 → (s_run (q_egs I x h) 0 n (-1) = -1 ∧ ∀ i, i < n → I f_m_isDown (s_kn x (nI i)) = 0) ∨ ∃ j, j < n ∧ s_run (q_egs I x h) 0 n (-1) = nI j := by
  intro n
  induction n with
  | zero => exact fun _ => .inl ⟨rfl, fun i hi => absurd hi (Nat.not_lt_zero _)⟩
  | succ n ih =>
    intro hn
    rw [s_run_l, Nat.zero_add]
    have ihn := ih (by omega)
    generalize s_run (q_egs I x h) 0 n (-1) = u at ihn ⊢
    unfold q_egs
    rcases ihn with ⟨e, h1⟩ | ⟨j, hj, e⟩
    · by_cases c : I f_m_isDown (s_kn x (nI n)) ≠ 0
      · rw [if_pos ⟨c, .inl e⟩]
        exact .inr ⟨n, by omega, rfl⟩
      · rw [if_neg (fun z => c z.1)]
        refine .inl ⟨e, fun i hi => ?_⟩
        by_cases z : i = n
        · rw [z]; exact Decidable.not_not.mp c
        · exact h1 i (by omega)
    · by_cases c : I f_m_isDown (s_kn x (nI n)) ≠ 0 ∧ (u = -1 ∨ h ≠ 0)
      · rw [if_pos c]
        exact .inr ⟨n, by omega, rfl⟩
      · rw [if_neg c]
        exact .inr ⟨j, by omega, e⟩
/-- no key is down -/
theorem v_noK {I I' : e_I} {nk nr q : Nat} (hy : v_Ky I I') (h : s_any3 I = false) : v_C I' nk nr q = 0 := by
  unfold v_C
  refine v_S_z (fun d hd => v_S_z (fun n hn => ?_))
  rw [if_pos]
  unfold s_any3 at h
  have hl : ¬ 0 ≤ I f_a_lowest d := by
    rw [Bool.or_eq_false_iff, Bool.or_eq_false_iff, decide_eq_false_iff_not, decide_eq_false_iff_not, decide_eq_false_iff_not] at h
    rcases (by omega : d = 0 ∨ d = 1 ∨ d = 2) with e | e | e <;> rw [e]
    · exact h.1
    · exact h.2.1
    · exact h.2.2
  rw [(hy.2.2.2.1 d hd).1] at hl
  have hk : s_kcn (nI d) ≤ 61 := v_kcn d
  rcases v_egs (I := I') (x := nI d) (h := 0) (s_kcn (nI d)) hk with h1 | ⟨j, hj, e⟩
  · exact h1.2 n hn
  · unfold q_eg at hl
    rw [e] at hl
    exact absurd (nI_pos' (by omega)) hl
theorem v_tk {I I' : e_I} {c dv n : Nat} (hy : v_Ky I I') (hdv : dv < 3) (hn : n < 61) (h1 : I f_c_from c = nI dv) (h2 : I' f_mk_division c = nI dv) (h3 : I f_c_kind c = I' f_mk_letter c) : s_tks I c (nI n) (I f_now 0) = true ↔ (n < s_kcn (nI dv) ∧ ¬ I' f_m_isDown (s_kn (nI dv) (nI n)) = 0) ∧ q_tk I' c (nI n) = true := by
  unfold s_tks q_tk
  rw [h1, h2, h3, Bool.and_eq_true]
  have hx : ¬ (nI dv < 0 ∨ 3 ≤ nI dv) := fun z => by
    rcases z with z | z
    · exact nI_pos (by omega) z
    · exact nI_ge (b := 3) hdv (by decide) z
  have ed : s_dn I (nI dv) (nI n) = true ↔ n < s_kcn (nI dv) ∧ ¬ I' f_m_isDown (s_kn (nI dv) (nI n)) = 0 := by
    by_cases c : s_isk (nI dv) (nI n)
    · rw [v_dn hy.1 c, decide_eq_true_iff]
      exact ⟨fun z => ⟨(v_isk hdv hn).mp c, z⟩, fun z => z.2⟩
    · unfold s_dn
      rw [decide_eq_true (s_idx_neg.mpr c)]
      exact ⟨fun z => absurd z (by simp), fun z => absurd ((v_isk hdv hn).mpr z.1) c⟩
  rw [ed]
  refine and_congr_right (fun hd => ?_)
  have hk : s_isk (nI dv) (nI n) := (v_isk hdv hn).mpr hd.1
  have e1 : s_hi I (nI dv) = q_eg I' (nI dv) 1 := by
    unfold s_hi
    rw [if_neg hx, nI_clamp (by omega), (hy.2.2.2.1 dv hdv).2]
  have e2 : s_lo I (nI dv) = q_eg I' (nI dv) 0 := by
    unfold s_lo
    rw [if_neg hx, nI_clamp (by omega), (hy.2.2.2.1 dv hdv).1]
  have e3 : s_tk I (nI dv) (nI n) = I' f_m_wentDown (s_kn (nI dv) (nI n)) := by
    unfold s_tk
    rw [if_neg (fun z => s_idx_neg.mp z hk), hy.2.1 _ hk.lt]
  rw [e1, e2, e3, hy.2.2.1]
  by_cases c1 : I' f_mk_letter c = 97
  · rw [if_neg (by rw [c1]; decide), if_neg (by rw [c1]; decide), if_pos c1, decide_eq_true c1]; simp
  · rw [decide_eq_false c1, Bool.false_or, if_neg c1]
    by_cases c2 : I' f_mk_letter c = 109
    · rw [if_pos c2, if_neg (by rw [c2]; decide), if_pos c2, decide_eq_true_iff, decide_eq_true_iff]; exact eq_comm
    · rw [if_neg c2]
      by_cases c3 : I' f_mk_letter c = 98
      · rw [if_pos c3, if_pos c3, decide_eq_true_iff, decide_eq_true_iff]; exact eq_comm
      · rw [if_neg c3, if_neg c3, if_neg c2]
def v_U (I : e_I) (nk nr q c : Nat) : Int32 := v_S 61 (fun n => if n < s_kcn (nI c) ∧ ¬ I f_m_isDown (s_kn (nI c) (nI n)) = 0 ∧ ¬ q_ct I c = true then v_P I nk nr (nI c) (nI n) q else 0)
def v_Z (I : e_I) (nk nr q c n d : Nat) : Int32 := if n < s_kcn (nI d) ∧ ¬ I f_m_isDown (s_kn (nI d) (nI n)) = 0 ∧ v_Bc I d n c then v_P I nk nr (I f_mk_to c) (nI n + I f_mk_shift c) q else 0
theorem v_CU {I : e_I} {nk nr q : Nat} : v_C I nk nr q = v_S 3 (v_U I nk nr q) + v_S nk (fun c => v_S 61 (fun n => v_S 3 (fun d => v_Z I nk nr q c n d))) := by
  have e1 : v_S nk (fun c => v_S 61 (fun n => v_S 3 (fun d => v_Z I nk nr q c n d))) = v_S 3 (fun d => v_S 61 (fun n => v_S nk (fun c => v_Z I nk nr q c n d))) := by
    rw [v_S_congr (n := nk) (g := fun c => v_S 3 (fun d => v_S 61 (fun n => v_Z I nk nr q c n d))) (fun c _ => v_S_comm), v_S_comm]
    exact v_S_congr (fun d _ => v_S_comm)
  rw [e1, ← v_S_add]
  unfold v_C
  refine v_S_congr (fun d hd => ?_)
  unfold v_U
  rw [← v_S_add, v_S_le (n := 61) (m := s_kcn (nI d)) (v_kcn d) (fun n hn _ => by
    rw [if_neg (fun z => absurd z.1 (by omega)), v_S_z (fun c _ => by unfold v_Z; rw [if_neg (fun z => absurd z.1 (by omega))])]; rfl)]
  refine v_S_congr (fun n hn => ?_)
  by_cases c : I f_m_isDown (s_kn (nI d) (nI n)) = 0
  · rw [if_pos c, if_neg (fun z => z.2.1 c), v_S_z (fun x _ => by unfold v_Z; rw [if_neg (fun z => z.2.1 c)])]; rfl
  · rw [if_neg c]
    congr 1
    · by_cases c2 : q_ct I d = true
      · rw [if_pos c2, if_neg (fun z => z.2.2 c2)]
      · rw [if_neg c2, if_pos ⟨hn, c, c2⟩]
    · refine v_S_congr (fun x _ => ?_)
      unfold v_Z
      by_cases c3 : v_Bc I d n x
      · rw [if_pos c3, if_pos ⟨hn, c, c3⟩]
      · rw [if_neg c3, if_neg (fun z => c3 z.2.2)]
theorem v_AC {I I' : e_I} {nk nr q : Nat} (hK : v_Kn I I' nk) (hr : v_eq 16 f_a_relaysOn f_m_isRelay I I') (hy : v_Ky I I') : v_S nk (fun c => v_S 61 (fun n => if v_A I c n = true then v_P I' nk nr (I f_c_to c) (nI n + I f_c_shift c) q else 0)) = v_C I' nk nr q := by
  rw [v_CU, ← v_S_congr (n := 3) (f := fun c => if c < 3 then v_U I' nk nr q c else 0) (fun c hc => if_pos hc), ← v_S_le (n := nk) (m := 3) hK.1.1 (fun c hc _ => if_neg (by omega)), ← v_S_add]
  refine v_S_congr (fun c hc => ?_)
  obtain ⟨⟨g1, g2, -, -⟩, ⟨dv, hdv, gd⟩, -, hk⟩ := hK.2 c hc
  have ect := v_ct hK hr hc
  rcases hk with ⟨hc3, k1, k2, k3, k4, k5, k6⟩ | ⟨hc3, k1, k2, k3, k4, k5⟩ | ⟨hc3, k1, -⟩ | ⟨hc3, k1⟩
  · rw [if_pos hc3, v_S_z (f := fun n => v_S 3 (fun d => v_Z I' nk nr q c n d)) (fun n _ => v_S_z (fun d _ => by
      unfold v_Z
      rw [if_neg (fun z => absurd (k1.symm.trans (g1.trans z.2.2.1)) (by decide))])), Int32.add_zero]
    unfold v_U
    refine v_S_congr (fun n hn => ?_)
    rw [k4, k5, Int32.add_zero]
    have eA : v_A I c n = true ↔ n < s_kcn (nI c) ∧ ¬ I' f_m_isDown (s_kn (nI c) (nI n)) = 0 ∧ ¬ q_ct I' c = true := by
      unfold v_A s_wy s_isco s_tks
      rw [k4, k5, Int32.add_zero, k1, k3, k6, ect]
      by_cases ci : s_isk (nI c) (nI n)
      · rw [v_dn hy.1 ci, decide_eq_true ci]
        have := (v_isk hc3 hn).mp ci
        by_cases c9 : I' f_m_isDown (s_kn (nI c) (nI n)) = 0
        · simp [c9]
        · cases q_ct I' c <;> simp [c9, this]
      · rw [decide_eq_false ci]
        constructor
        · intro z; simp at z
        · intro z; exact absurd ((v_isk hc3 hn).mpr z.1) ci
    by_cases c1 : v_A I c n = true
    · rw [if_pos c1, if_pos (eA.mp c1)]
    · rw [if_neg c1, if_neg (fun z => c1 (eA.mpr z))]
  · rw [if_neg (by omega), Int32.zero_add]
    refine v_S_congr (fun n hn => ?_)
    have gd' : I' f_mk_division c = nI dv := by rw [← g2]; exact gd
    rw [v_S_one (k := dv) hdv (fun d hd hne => by
      unfold v_Z
      rw [if_neg (fun z => hne ((nI_eq (by omega) (by omega)).mp (z.2.2.2.1.symm.trans gd')))])]
    unfold v_Z
    rw [k3, k4]
    have eA : v_A I c n = true ↔ n < s_kcn (nI dv) ∧ ¬ I' f_m_isDown (s_kn (nI dv) (nI n)) = 0 ∧ v_Bc I' dv n c := by
      unfold v_A v_Bc
      rw [Bool.and_eq_true, Bool.and_eq_true, decide_eq_true_iff, k3, k4, v_tk hy hdv hn (k2.trans gd) gd' k5]
      have ew : s_wy I c = true ↔ q_ct I' c = true := by
        unfold s_wy s_isco
        rw [k1, ect]
        cases q_ct I' c <;> simp
      rw [ew]
      constructor
      · exact fun z => ⟨z.2.2.1.1, z.2.2.1.2, g1.symm.trans k1, gd', z.1, z.2.2.2, z.2.1⟩
      · exact fun z => ⟨z.2.2.2.2.1, z.2.2.2.2.2.2, ⟨z.1, z.2.1⟩, z.2.2.2.2.2.1⟩
    by_cases c1 : v_A I c n = true
    · rw [if_pos c1, if_pos (eA.mp c1)]
    · rw [if_neg c1, if_neg (fun z => c1 (eA.mpr z))]
  · rw [if_neg (by omega), Int32.zero_add]
    refine v_S_congr (fun n hn => ?_)
    rw [if_neg (fun z => by unfold v_A s_wy s_isco at z; rw [k1] at z; simp at z), v_S_z (fun d _ => by
      unfold v_Z
      rw [if_neg (fun z => absurd (k1.symm.trans (g1.trans z.2.2.1)) (by decide))])]
  · rw [if_neg (by omega), Int32.zero_add]
    refine v_S_congr (fun n hn => ?_)
    rw [if_neg (fun z => by unfold v_A s_wy s_isco at z; rw [k1] at z; simp at z), v_S_z (fun d _ => by
      unfold v_Z
      rw [if_neg (fun z => absurd (k1.symm.trans (g1.trans z.2.2.1)) (by decide))])]
