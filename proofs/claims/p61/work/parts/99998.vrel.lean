/-! 99998: the two sides beside each other: pairs of fields; relays -/
def v_eq (n F G : Nat) (I I' : e_I) : Prop := ∀ i, i < n → I F i = I' G i
theorem v_eq.N {n F G : Nat} {T T' : List Nat} {I I' I1 I1' : e_I} (h : v_eq n F G I I') (e : s_eqN T I I1) (e' : s_eqN T' I' I1') (h1 : T.contains F = false) (h2 : T'.contains G = false) : v_eq n F G I1 I1' := fun i hi => by
  rw [e F h1, e' G h2]; exact h i hi
def v_op (x : Int32) : Int32 := if x = 45 then 0 else x
theorem v_bI {a b : Bool} : bI a = bI b ↔ a = b := by cases a <;> cases b <;> decide
theorem v_bI0 {a : Bool} : bI a = 0 ↔ a = false := by cases a <;> decide
theorem v_bIn {a : Bool} : ¬ bI a = 0 ↔ a = true := by cases a <;> decide
theorem v_dn {I I' : e_I} {x y : Int32} (hd : v_eq 183 f_a_pressed f_m_isDown I I') (h : s_isk x y) : s_dn I x y = decide (¬ I' f_m_isDown (s_kn x y) = 0) := by
  unfold s_dn
  rw [hd _ h.lt, decide_eq_false (fun z => s_idx_neg.mp z h)]
  rfl
/-- the sources -/
theorem v_src {I I' : e_I} {nk : Nat} {x : Int32} (hnk : nk ≤ 40) (hk : v_eq nk f_k_isOut f_mk_isDrawn I I') (hd : v_eq 183 f_a_pressed f_m_isDown I I') (hr : v_eq 16 f_a_relaysOn f_m_isRelay I I') (hx : q_sk x) : s_src I nk x = q_src I' nk x := by
  unfold s_src q_src
  by_cases c1 : x < 100
  · rw [if_neg (show ¬ (400 : Int32) ≤ x by grind), if_neg (show ¬ (100 : Int32) ≤ x by grind), if_pos c1]
    by_cases c2 : 0 ≤ x ∧ x < nI nk
    · obtain ⟨j, hj, e⟩ := s_nat c2.1 c2.2 (by omega)
      rw [decide_eq_true c2, decide_eq_true c2.1, decide_eq_true c2.2, e, nI_clamp (by omega), hk j hj]
      rfl
    · rw [decide_eq_false c2]
      by_cases c3 : 0 ≤ x
      · rw [decide_eq_false (fun z => c2 ⟨c3, z⟩)]; cases decide (0 ≤ x) <;> rfl
      · rw [decide_eq_false c3, Bool.false_and]; rfl
  · rw [if_neg c1]
    rcases hx with h | h | h
    · exact absurd h c1
    · rw [if_pos h.1, if_neg (show ¬ x < 400 from Int32.not_lt.mpr h.1)]
      unfold s_ro
      obtain ⟨j, hj, e⟩ := s_nat (x := x - 400) (n := 16) (by grind) (by have := h.2; show x - 400 < 16; grind) (by decide)
      rw [decide_eq_true (show 0 ≤ x - 400 by grind), decide_eq_true (show x - 400 < 16 by have := h.2; grind), e, nI_clamp (by omega), hr j hj]
      rfl
    · rw [if_neg (show ¬ (400 : Int32) ≤ x from Int32.not_le.mpr h.2.1), if_pos (Int32.not_lt.mp c1), if_pos h.2.1, v_dn hd h.2.2]
/-- relays -/
theorem v_rel {I I' : e_I} {nk : Nat} (hnk : nk ≤ 40) (hk : v_eq nk f_k_isOut f_mk_isDrawn I I') (hd : v_eq 183 f_a_pressed f_m_isDown I I') (hr : v_eq 16 f_a_relaysOn f_m_isRelay I I') (h1 : v_eq 16 f_a_sources f_m_first I I') (h2 : v_eq 16 f_a_others f_m_second I I') (ho : ∀ r, r < 16 → I f_a_operations r = v_op (I' f_m_operation r) ∧ (I' f_m_operation r = 45 ∧ I' f_m_isRelay r = 0 ∨ I' f_m_operation r = 38 ∨ I' f_m_operation r = 124 ∨ I' f_m_operation r = 94 ∨ I' f_m_operation r = 33)) (hq : q_S I') : v_eq 16 f_a_relaysOn f_m_isRelay (s_rel I nk 16) (q_rel nk I') := by
  have key : ∀ r, r ≤ 16 → v_eq 16 f_a_relaysOn f_m_isRelay (s_rel I nk r) (s_run (q_rl nk) 0 r I') ∧ ∀ i, r ≤ i → i < 16 → s_run (q_rl nk) 0 r I' f_m_isRelay i = I' f_m_isRelay i := by
    intro r
    induction r with
    | zero => exact fun _ => ⟨hr, fun _ _ _ => rfl⟩
    | succ r ih =>
      intro hr16
      have hE : s_eqN [f_a_relaysOn] I (s_rel I nk r) := s_eqN.rel r
      have hE' : s_eqN [f_m_isRelay] I' (s_run (q_rl nk) 0 r I') := s_eqN.run (fun i I => by
        unfold q_rl
        split
        · exact s_eqN.rfl'
        · exact s_eqN.up (by decide)) _ _ _
      obtain ⟨ih1, ih2⟩ := ih (by omega)
      rw [s_run_l, Nat.zero_add]
      show v_eq 16 _ _ (s_up (s_rel I nk r) f_a_relaysOn r _) (q_rl nk r (s_run (q_rl nk) 0 r I')) ∧ _
      have eo : s_rel I nk r f_a_operations r = v_op (I' f_m_operation r) := by rw [hE _ (by decide)]; exact (ho r (by omega)).1
      have eo' : s_run (q_rl nk) 0 r I' f_m_operation r = I' f_m_operation r := by rw [hE' _ (by decide)]
      have es : s_rel I nk r f_a_sources r = s_run (q_rl nk) 0 r I' f_m_first r := by rw [hE _ (by decide), hE' _ (by decide)]; exact h1 r (by omega)
      have et : s_rel I nk r f_a_others r = s_run (q_rl nk) 0 r I' f_m_second r := by rw [hE _ (by decide), hE' _ (by decide)]; exact h2 r (by omega)
      have hq' : ¬ I' f_m_operation r = 45 → q_sk (s_run (q_rl nk) 0 r I' f_m_first r) ∧ (¬ I' f_m_operation r = 33 → q_sk (s_run (q_rl nk) 0 r I' f_m_second r)) := by
        rw [hE' _ (by decide), hE' _ (by decide)]; exact hq r (by omega)
      have hS : ∀ x, q_sk x → s_src (s_rel I nk r) nk x = q_src (s_run (q_rl nk) 0 r I') nk x := fun x hx => v_src hnk (hk.N hE hE' (by decide) (by decide)) (hd.N hE hE' (by decide) (by decide)) ih1 hx
      generalize s_rel I nk r = A at *
      generalize s_run (q_rl nk) 0 r I' = B at *
      have hv : bI (s_cmb (A f_a_operations r) (bI (s_src A nk (A f_a_sources r))) (bI (s_src A nk (A f_a_others r)))) = q_rl nk r B f_m_isRelay r := by
        unfold q_rl
        rw [eo', eo, es, et]
        rcases (ho r (by omega)).2 with e | e | e | e | e
        · rw [if_pos e.1, ih2 r (Nat.le_refl _) (by omega), e.2, e.1]
          unfold s_cmb
          rw [if_neg (by decide), if_neg (by decide), if_neg (by decide)]
          rfl
        · have := hq' (by rw [e]; decide)
          rw [if_neg (by rw [e]; decide), s_up_s, hS _ this.1, hS _ (this.2 (by rw [e]; decide)), e]
          unfold s_cmb q_rv
          rw [if_pos (by decide), eo', e, if_pos rfl]
          cases q_src B nk (B f_m_first r) <;> cases q_src B nk (B f_m_second r) <;> decide
        · have := hq' (by rw [e]; decide)
          rw [if_neg (by rw [e]; decide), s_up_s, hS _ this.1, hS _ (this.2 (by rw [e]; decide)), e]
          unfold s_cmb q_rv
          rw [if_neg (by decide), if_pos (by decide), eo', e, if_neg (by decide), if_pos rfl]
          cases q_src B nk (B f_m_first r) <;> cases q_src B nk (B f_m_second r) <;> decide
        · have := hq' (by rw [e]; decide)
          rw [if_neg (by rw [e]; decide), s_up_s, hS _ this.1, hS _ (this.2 (by rw [e]; decide)), e]
          unfold s_cmb q_rv
          rw [if_neg (by decide), if_neg (by decide), if_pos (by decide), eo', e, if_neg (by decide), if_neg (by decide), if_pos rfl]
          cases q_src B nk (B f_m_first r) <;> cases q_src B nk (B f_m_second r) <;> decide
        · have := hq' (by rw [e]; decide)
          rw [if_neg (by rw [e]; decide), s_up_s, hS _ this.1, e]
          unfold s_cmb q_rv
          rw [if_neg (by decide), if_neg (by decide), if_neg (by decide), eo', e, if_neg (by decide), if_neg (by decide), if_neg (by decide)]
          cases q_src B nk (B f_m_first r) <;> decide
      have hi : ∀ i, i ≠ r → q_rl nk r B f_m_isRelay i = B f_m_isRelay i := fun i hi => by
        unfold q_rl
        split
        · rfl
        · exact s_up_i hi
      refine ⟨fun i hi16 => ?_, fun i h3 h4 => ?_⟩
      · by_cases e : i = r
        · subst e; rw [s_up_s]; exact hv
        · rw [s_up_i e, hi i e]; exact ih1 i hi16
      · rw [hi i (by omega)]; exact ih2 i (by omega) h4
  exact (key 16 (Nat.le_refl _)).1
