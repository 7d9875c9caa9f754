/-! 999998: what is kept, alike -/
def v_En (p : e_Sp) (nr : Nat) (I I' : e_I) (j : Nat) : Prop := ∃ cd, I f_entries j = ((I' f_mt_tick j - I f_startedAt 0) * 1280 + cd) * 2 + I' f_mt_is j ∧ ((I' f_m_kindKept 0 = 114 ∧ I' f_mt_division j = -1 ∧ ∃ r n, r < nr ∧ n < p.2.2.1 T_PARR r ∧ I' f_mt_at j = nI (p.2.2.2.2 r + n) ∧ cd = nI r * 128 + (I f_r_lowest r + nI n)) ∨ (I' f_m_kindKept 0 = 107 ∧ s_isk (I' f_mt_division j) (I' f_mt_at j) ∧ cd = I' f_mt_division j * 128 + I' f_mt_at j))
def v_Ta (p : e_Sp) (nr n : Nat) (t : Nat → Nat) (s m : Nat) (I I' : e_I) : Prop := (I f_tsize 0 = nI n ∧ I' f_l_size 4 = nI n ∧ I f_startedAt 0 = nI s ∧ I' f_m_tick 0 = nI m ∧ s ≤ m ∧ m < 1000000000) ∧ (∀ j, j < n → s ≤ t j ∧ t j ≤ m ∧ t j - s ≤ 100000 ∧ I' f_mt_tick j = nI (t j)) ∧ (∀ j, j + 1 < n → t j ≤ t (j + 1)) ∧ (∀ j, j < n → I' f_mt_is j = 0 ∨ I' f_mt_is j = 1) ∧ ∀ j, j < n → v_En p nr I I' j
def v_TaC : List Nat := [f_tsize, f_entries, f_startedAt, f_r_lowest]
def v_TaM : List Nat := [f_l_size, f_mt_division, f_mt_at, f_mt_tick, f_mt_is, f_m_tick, f_m_kindKept]
theorem v_Ta.N {T T' : List Nat} {I I' I1 I1' : e_I} {p : e_Sp} {nr n s m : Nat} {t : Nat → Nat} (h : v_Ta p nr n t s m I I') (e : s_eqN T I I1) (e' : s_eqN T' I' I1') (hT : v_dj v_TaC T = true) (hT' : v_dj v_TaM T' = true) : v_Ta p nr n t s m I1 I1' := by
  unfold v_Ta v_En at h ⊢
  simp only [e f_tsize (v_dj.o hT (by decide)), e f_entries (v_dj.o hT (by decide)), e f_startedAt (v_dj.o hT (by decide)), e f_r_lowest (v_dj.o hT (by decide)), e' f_l_size (v_dj.o hT' (by decide)), e' f_mt_division (v_dj.o hT' (by decide)), e' f_mt_at (v_dj.o hT' (by decide)), e' f_mt_tick (v_dj.o hT' (by decide)), e' f_mt_is (v_dj.o hT' (by decide)), e' f_m_tick (v_dj.o hT' (by decide)), e' f_m_kindKept (v_dj.o hT' (by decide))]
  exact h
/-- one more, both sides -/
theorem v_Ta.add {p : e_Sp} {nr n s m : Nat} {t : Nat → Nat} {I I' : e_I} (h : v_Ta p nr n t s m I I') {cd x y on : Int32} (hn : n < 1000000) (hms : m - s ≤ 100000) (hon : on = 0 ∨ on = 1) (hcd : (I' f_m_kindKept 0 = 114 ∧ x = -1 ∧ ∃ r j, r < nr ∧ j < p.2.2.1 T_PARR r ∧ y = nI (p.2.2.2.2 r + j) ∧ cd = nI r * 128 + (I f_r_lowest r + nI j)) ∨ (I' f_m_kindKept 0 = 107 ∧ s_isk x y ∧ cd = x * 128 + y)) : v_Ta p nr (n + 1) (fun j => if j = n then m else t j) s m (s_ke I cd on (I' f_m_tick 0)) (q_ka I' (I' f_l_size 4).toNatClampNeg x y on) := by
  obtain ⟨⟨h1, h2, h3, h4, h5, h6⟩, g1, g2, g3, g4⟩ := h
  have hE : s_eqN [f_entries, f_tsize] I (s_ke I cd on (I' f_m_tick 0)) := s_eqN.ke
  have hE' : s_eqN v_qA I' (q_ka I' (I' f_l_size 4).toNatClampNeg x y on) := q_ka_e.1
  rw [h2, nI_clamp (by omega)] at hE' ⊢
  have e1 : s_ke I cd on (I' f_m_tick 0) f_tsize 0 = nI (n + 1) := by
    unfold s_ke
    rw [h1, if_neg (show ¬ (1048576 : Int32) ≤ nI n from nI_ge (b := 1048576) (by omega) (by decide)), s_up_s, nI_1]
  have e2 : ∀ j, j < n → s_ke I cd on (I' f_m_tick 0) f_entries j = I f_entries j := by
    intro j hj
    unfold s_ke
    rw [h1, if_neg (show ¬ (1048576 : Int32) ≤ nI n from nI_ge (b := 1048576) (by omega) (by decide)), s_up_F (by decide), s_up_i (by rw [nI_clamp (by omega)]; omega)]
  have e3 : s_ke I cd on (I' f_m_tick 0) f_entries n = ((I' f_m_tick 0 - I f_startedAt 0) * 1280 + cd) * 2 + on := by
    unfold s_ke s_kev
    rw [h1, if_neg (show ¬ (1048576 : Int32) ≤ nI n from nI_ge (b := 1048576) (by omega) (by decide)), s_up_F (by decide), nI_clamp (by omega), s_up_s]
    rcases hon with e | e
    · rw [e, if_pos rfl]
    · rw [e, if_neg (by decide)]
  have k0 : ∀ F, F ≠ f_l_modCount → F ≠ f_l_size → ∀ j, q_ka I' n x y on F j = s_IMKEPT I' n x y (I' f_m_tick 0) on F j := by
    intro F z1 z2 j
    unfold q_ka s_adI
    rw [s_up_F z2, s_up_F z1]
  have kj : ∀ F, F ≠ f_l_modCount → F ≠ f_l_size → ∀ j, j ≠ n → q_ka I' n x y on F j = I' F j := by
    intro F z1 z2 j hj
    rw [k0 F z1 z2]
    unfold s_IMKEPT
    rw [s_up_i hj, s_up_i hj, s_up_i hj, s_up_i hj]
  have k1 : q_ka I' n x y on f_mt_division n = x := by rw [k0 _ (by decide) (by decide)]; unfold s_IMKEPT; rw [s_up_F (by decide), s_up_F (by decide), s_up_F (by decide), s_up_s]
  have k2 : q_ka I' n x y on f_mt_at n = y := by rw [k0 _ (by decide) (by decide)]; unfold s_IMKEPT; rw [s_up_F (by decide), s_up_F (by decide), s_up_s]
  have k3 : q_ka I' n x y on f_mt_tick n = nI m := by rw [k0 _ (by decide) (by decide)]; unfold s_IMKEPT; rw [s_up_F (by decide), s_up_s, h4]
  have k4 : q_ka I' n x y on f_mt_is n = on := by rw [k0 _ (by decide) (by decide)]; unfold s_IMKEPT; rw [s_up_s]
  refine ⟨⟨e1, q_ka_n, by rw [hE _ (by decide)]; exact h3, by rw [hE' _ (by decide)]; exact h4, h5, h6⟩, fun j hj => ?_, fun j hj => ?_, fun j hj => ?_, fun j hj => ?_⟩
  · show s ≤ (if j = n then m else t j) ∧ (if j = n then m else t j) ≤ m ∧ (if j = n then m else t j) - s ≤ 100000 ∧ _ = nI (if j = n then m else t j)
    by_cases e : j = n
    · rw [if_pos e, e]; exact ⟨h5, Nat.le_refl _, hms, k3⟩
    · rw [if_neg e, kj _ (by decide) (by decide) j e]; exact g1 j (by omega)
  · show (if j = n then m else t j) ≤ (if j + 1 = n then m else t (j + 1))
    rw [if_neg (by omega)]
    by_cases e : j + 1 = n
    · rw [if_pos e]; exact (g1 j (by omega)).2.1
    · rw [if_neg e]; exact g2 j (by omega)
  · by_cases e : j = n
    · rw [e, k4]; exact hon
    · rw [kj _ (by decide) (by decide) j e]; exact g3 j (by omega)
  · unfold v_En
    rw [hE f_startedAt (by decide), hE f_r_lowest (by decide), hE' f_m_kindKept (by decide)]
    by_cases e : j = n
    · rw [e, e3, k1, k2, k3, k4, h4]
      exact ⟨cd, rfl, hcd⟩
    · rw [e2 j (by omega), kj f_mt_division (by decide) (by decide) j e, kj f_mt_at (by decide) (by decide) j e, kj f_mt_tick (by decide) (by decide) j e, kj f_mt_is (by decide) (by decide) j e]
      exact g4 j (by omega)
/-- what is wanted is recorded alike -/
theorem v_tape {p : e_Sp} {S M : e_I} {nr np n s m : Nat} {t : Nat → Nat} (hS : v_Sh p S M nr np) (hp : v_Pp np S M) (hf : ∀ q, q < np → ∃ m, m ≤ 2000000 ∧ S f_p_found q = nI m ∧ M f_m_counts q = nI m) (hn : S f_now 0 = M f_m_tick 0) (hT : v_Ta p nr n t s m S M) (hrec : S f_recording 0 = M f_m_recording 0) (hr : M f_m_recording 0 = 114 → M f_m_kindKept 0 = 114 ∧ m - s ≤ 100000 ∧ n + np ≤ 1000000 ∧ ∀ q, q < np → M f_m_isHeld q = 0 ∧ M f_m_isCalled q = M f_m_isWanted q) : ∀ i, i ≤ np → ∃ n' t', n' ≤ n + i ∧ (¬ M f_m_recording 0 = 114 → n' = n) ∧ v_Ta p nr n' t' s m (s_run (v_G (q_rk M) p.2.2.2.2) 0 i S) (s_run q_stA 0 i M) := by
  intro i
  induction i with
  | zero => exact fun _ => ⟨n, t, Nat.le_refl _, fun _ => rfl, hT⟩
  | succ i ih =>
    intro hi
    obtain ⟨n', t', hn', hn0, h⟩ := ih (by omega)
    have hE : s_eqN (v_pT ++ v_pA) S (s_run (v_G (q_rk M) p.2.2.2.2) 0 i S) := s_eqN.run v_GN _ _ _
    have hE1 : s_eqN (q_bT ++ v_qA) M (s_run q_stA 0 i M) := s_eqN.run v_stAN _ _ _
    have hr1 := v_Gr (rk := q_rk M) (bs := p.2.2.2.2) (I := S) i
    have hr2 := v_stAr (I := M) i
    rw [s_run_l, s_run_l, Nat.zero_add]
    have a1 : s_run (v_G (q_rk M) p.2.2.2.2) 0 i S f_p_isWanted i = S f_p_isWanted i := by rw [hr1 _ _ (by decide), if_neg (Nat.lt_irrefl _)]
    have a2 : s_run q_stA 0 i M f_m_isCalled i = M f_m_isCalled i := by rw [hr2 _ _ (by decide), if_neg (Nat.lt_irrefl _)]
    generalize s_run (v_G (q_rk M) p.2.2.2.2) 0 i S = A at *
    generalize s_run q_stA 0 i M = B at *
    have a3 : v_pw A i = v_pw S i := by unfold v_pw; rw [v_arE (v_S_fix hE (by decide)) (v_S_fix hE (by decide))]
    have a4 : q_is B i = q_is M i := by unfold q_is; rw [v_S_fix hE1 (by decide)]
    have a5 : A f_recording 0 = M f_m_recording 0 := by rw [hE _ (by decide)]; exact hrec
    have a6 : B f_m_recording 0 = M f_m_recording 0 := by rw [hE1 _ (by decide)]
    have hB : ∀ X, s_eqN q_bT X (q_stB i (q_is B i) X) := fun X => s_eqN.qstB
    have e0 : v_G (q_rk M) p.2.2.2.2 i A = s_mv3 (q_rk M i) i (v_pw A i) (s_mvA (q_rk M i) i (i - p.2.2.2.2 (q_rk M i)) (v_pw A i) A) := rfl
    have h3 : s_eqN [f_p_isOpened, f_p_closedAt, f_isWaiting, f_a_uses] (s_mvA (q_rk M i) i (i - p.2.2.2.2 (q_rk M i)) (v_pw A i) A) (v_G (q_rk M) p.2.2.2.2 i A) := by rw [e0]; exact s_eqN.mv3
    have fin : ∀ n2 t2, v_Ta p nr n2 t2 s m (s_mvA (q_rk M i) i (i - p.2.2.2.2 (q_rk M i)) (v_pw A i) A) (q_stK i B) → v_Ta p nr n2 t2 s m (v_G (q_rk M) p.2.2.2.2 i A) (q_stA i B) := fun n2 t2 hh => hh.N h3 (hB _) (by decide) (by decide)
    have hup : s_eqN [f_p_isWanted, f_p_changedAt] A (s_up (s_up A f_p_isWanted i (bI (v_pw A i))) f_p_changedAt i (s_up A f_p_isWanted i (bI (v_pw A i)) f_now 0)) := (s_eqN.up (by decide)).trans (s_eqN.up (by decide))
    by_cases c : M f_m_recording 0 = 114
    · obtain ⟨r1, r2, r3, r4⟩ := hr c
      obtain ⟨r4, r5⟩ := r4 i (by omega)
      obtain ⟨⟨b1, -⟩, ⟨b2, b3⟩, -⟩ := hp i (by omega)
      obtain ⟨u, hu, f1, f2⟩ := hf i (by omega)
      have eis : bI (v_pw A i) = q_is B i := by
        rw [a3, a4]
        unfold v_pw s_ar q_is
        rw [b1, r4, if_pos rfl, f1, f2]
      by_cases c2 : A f_p_isWanted i = bI (v_pw A i)
      · refine ⟨n', t', by omega, hn0, fin _ _ ?_⟩
        unfold s_mvA q_stK
        rw [if_pos c2, if_neg]
        · exact h
        · intro z
          apply z.1
          rw [← eis, ← c2, a1, b2, a2, r5]
      · obtain ⟨r, j, hr, hj, e, erk⟩ := hS.ex (q := i) (by omega)
        have c3 : q_is B i ≠ B f_m_isCalled i ∧ B f_m_recording 0 = 114 := ⟨fun z => c2 (by rw [eis, z, a1, b2, a2, r5]), by rw [a6]; exact c⟩
        refine ⟨n' + 1, fun j => if j = n' then m else t' j, by omega, fun z => absurd c z, fin _ _ ?_⟩
        unfold s_mvA q_stK
        rw [if_neg c2, if_pos c3]
        unfold s_kp
        rw [hup f_recording (by decide), if_pos (a5.trans c), hup f_r_lowest (by decide), hup f_now (by decide), erk, e, Nat.add_sub_cancel_left, ← e]
        have hT1 := h.N hup (s_eqN.rfl' (T := [])) (by decide) (by decide)
        have hnow : A f_now 0 = B f_m_tick 0 := by rw [hE _ (by decide), hE1 _ (by decide), hn]
        rw [hnow, eis]
        rw [eis] at hT1 hup
        refine hT1.add (by omega) r2 (show q_is B i = 0 ∨ q_is B i = 1 from bI_or _) (.inl ⟨by rw [hE1 _ (by decide)]; exact r1, rfl, r, j, hr, hj, by rw [← e], by rw [hup f_r_lowest (by decide)]⟩)
    · refine ⟨n', t', by omega, hn0, fin _ _ ?_⟩
      have e2 : q_stK i B = B := by unfold q_stK; exact if_neg (fun z => c (a6.symm.trans z.2))
      rw [e2]
      have e3 : s_eqN [f_p_isWanted, f_p_changedAt] A (s_mvA (q_rk M i) i (i - p.2.2.2.2 (q_rk M i)) (v_pw A i) A) := by
        unfold s_mvA
        split
        · exact s_eqN.rfl'
        · unfold s_kp
          rw [hup f_recording (by decide), if_neg (fun z => c (a5.symm.trans z))]
          exact hup
      exact h.N e3 (s_eqN.rfl' (T := [])) (by decide) (by decide)
