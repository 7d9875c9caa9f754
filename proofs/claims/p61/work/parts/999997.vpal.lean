/-! 999997: pallets move alike, the two sides -/
theorem v_cn {I I' : e_I} {nk nr q : Nat} (hK : v_Kn I I' nk) : ∃ m, m ≤ 2000000 ∧ v_C I' nk nr q = nI m := by
  have h01 : ∀ (c : Prop) [Decidable c], ∃ m, m ≤ 1 ∧ (if c then (1 : Int32) else 0) = nI m := fun c _ => by
    split
    · exact ⟨1, by omega, rfl⟩
    · exact ⟨0, by omega, rfl⟩
  have hnk := hK.1.2
  have hP : ∀ x y, ∃ m, m ≤ 160 ∧ v_P I' nk nr x y q = nI m := by
    intro x y
    obtain ⟨m, hm, e⟩ := v_S_cnt (n := nk) (b := 4) (f := fun k => if I' f_mk_kind k = 115 ∧ I' f_mk_division k = x ∧ q_so I' k = true then v_Rw I' nr k y q else 0) (fun k hk => by
      show ∃ m, m ≤ 4 ∧ (if I' f_mk_kind k = 115 ∧ I' f_mk_division k = x ∧ q_so I' k = true then v_Rw I' nr k y q else 0) = nI m
      split
      · rename_i c
        obtain ⟨-, ⟨r, hr, -, h2, -⟩, -⟩ := hK.stop hk ((hK.2 k hk).1.1.trans c.1)
        obtain ⟨m, hm, e⟩ := v_S_cnt (n := r) (b := 1) (f := fun r => if ((I' f_mk_froms (k * 4 + r) ≤ I' f_mk_wires (k * 61 + y.toNatClampNeg) ∧ I' f_mk_wires (k * 61 + y.toNatClampNeg) ≤ I' f_mk_tos (k * 4 + r)) ∧ q_ip I' nr (I' f_mk_ranks (k * 4 + r)) (q_nt I' k (I' f_mk_wires (k * 61 + y.toNatClampNeg)) r) = true) ∧ q_pi I' (I' f_mk_ranks (k * 4 + r)) (q_nt I' k (I' f_mk_wires (k * 61 + y.toNatClampNeg)) r) = q then (1 : Int32) else 0) (fun i _ => h01 _)
        refine ⟨m, by omega, ?_⟩
        unfold v_Rw
        rw [h2, nI_clamp (by omega)]
        exact e
      · exact ⟨0, by omega, rfl⟩)
    exact ⟨m, by omega, e⟩
  obtain ⟨m, hm, e⟩ := v_S_cnt (n := 3) (b := 61 * 6560) (f := fun d => v_S (s_kcn (nI d)) (fun n => if I' f_m_isDown (s_kn (nI d) (nI n)) = 0 then 0 else (if q_ct I' d = true then 0 else v_P I' nk nr (nI d) (nI n) q) + v_S nk (fun c => if v_Bc I' d n c then v_P I' nk nr (I' f_mk_to c) (nI n + I' f_mk_shift c) q else 0))) (fun d _ => by
    obtain ⟨m, hm, e⟩ := v_S_cnt (n := s_kcn (nI d)) (b := 6560) (f := fun n => if I' f_m_isDown (s_kn (nI d) (nI n)) = 0 then 0 else (if q_ct I' d = true then 0 else v_P I' nk nr (nI d) (nI n) q) + v_S nk (fun c => if v_Bc I' d n c then v_P I' nk nr (I' f_mk_to c) (nI n + I' f_mk_shift c) q else 0)) (fun n _ => by
      show ∃ m, m ≤ 6560 ∧ (if I' f_m_isDown (s_kn (nI d) (nI n)) = 0 then 0 else (if q_ct I' d = true then 0 else v_P I' nk nr (nI d) (nI n) q) + v_S nk (fun c => if v_Bc I' d n c then v_P I' nk nr (I' f_mk_to c) (nI n + I' f_mk_shift c) q else 0)) = nI m
      by_cases c0 : I' f_m_isDown (s_kn (nI d) (nI n)) = 0
      · rw [if_pos c0]; exact ⟨0, by omega, rfl⟩
      · rw [if_neg c0]
        have ha : ∃ m, m ≤ 160 ∧ (if q_ct I' d = true then 0 else v_P I' nk nr (nI d) (nI n) q) = nI m := by
          split
          · exact ⟨0, by omega, rfl⟩
          · exact hP _ _
        obtain ⟨m1, hm1, e1⟩ := ha
        obtain ⟨m2, hm2, e2⟩ := v_S_cnt (n := nk) (b := 160) (f := fun c => if v_Bc I' d n c then v_P I' nk nr (I' f_mk_to c) (nI n + I' f_mk_shift c) q else 0) (fun c _ => by
          show ∃ m, m ≤ 160 ∧ (if v_Bc I' d n c then v_P I' nk nr (I' f_mk_to c) (nI n + I' f_mk_shift c) q else 0) = nI m
          split
          · exact hP _ _
          · exact ⟨0, by omega, rfl⟩)
        exact ⟨m1 + m2, by omega, by rw [e1, e2, nI_add]⟩)
    exact ⟨m, Nat.le_trans hm (Nat.mul_le_mul_right _ (v_kcn d)), e⟩)
  exact ⟨m, by omega, e⟩
/-- pipes beside each other -/
def v_P1 (I I' : e_I) (q : Nat) : Prop := (I f_p_isHeld q = I' f_m_isHeld q ∧ (I' f_m_isHeld q = 0 ∨ I' f_m_isHeld q = 1)) ∧ (I f_p_isWanted q = I' f_m_isWanted q ∧ (I' f_m_isWanted q = 0 ∨ I' f_m_isWanted q = 1)) ∧ I f_p_changedAt q = I' f_m_since q ∧ (I f_p_isOpened q = I' f_m_isOpen q ∧ (I' f_m_isOpen q = 0 ∨ I' f_m_isOpen q = 1)) ∧ (I f_p_closedAt q = I' f_m_closedSince q ∨ (I f_p_closedAt q = -5 ∧ I' f_m_closedSince q = -1000000)) ∧ I f_p_fault q = I' f_m_fault q
def v_Pp (np : Nat) (I I' : e_I) : Prop := ∀ q, q < np → v_P1 I I' q
def v_Tm (I : e_I) : Prop := ∃ m, m < 1000000000 ∧ I f_m_tick 0 = nI m
theorem v_pal1 {w o s cl cs now dl rs : Int32} {m : Nat} (hw : w = 0 ∨ w = 1) (ho : o = 0 ∨ o = 1) (hc : cl = cs ∨ (cl = -5 ∧ cs = -1000000)) (hn : now = nI m) (hm : m < 1000000000) (hrs : rs ≤ 5) : v_mo w o s cl now dl rs = (if w ≠ 0 ∧ o = 0 ∧ dl ≤ now - s ∧ rs ≤ now - cs then 1 else if w = 0 ∧ o ≠ 0 ∧ dl ≤ now - s then 0 else o) ∧ (v_mc w o s cl now dl = (if w ≠ 0 ∧ o = 0 ∧ dl ≤ now - s ∧ rs ≤ now - cs then cs else if w = 0 ∧ o ≠ 0 ∧ dl ≤ now - s then now else cs) ∨ (v_mc w o s cl now dl = -5 ∧ (if w ≠ 0 ∧ o = 0 ∧ dl ≤ now - s ∧ rs ≤ now - cs then cs else if w = 0 ∧ o ≠ 0 ∧ dl ≤ now - s then now else cs) = -1000000)) := by
  have hrc : rs ≤ now - cl ↔ rs ≤ now - cs := by
    rcases hc with e | ⟨e, e2⟩
    · rw [e]
    · have g1 : rs ≤ now - cl := by
        rw [e, hn]
        have : nI m - -5 = nI (m + 5) := by rw [← nI_add]; show nI m - -5 = nI m + 5; grind
        rw [this]
        exact Int32.le_trans hrs (nI_le (a := 5) (by omega) (by omega))
      have g2 : rs ≤ now - cs := by
        rw [e2, hn]
        have : nI m - -1000000 = nI (m + 1000000) := by rw [← nI_add]; show nI m - -1000000 = nI m + 1000000; grind
        rw [this]
        exact Int32.le_trans hrs (nI_le (a := 5) (by omega) (by omega))
      exact ⟨fun _ => g2, fun _ => g1⟩
  have hd : now - s < dl ↔ ¬ dl ≤ now - s := Int32.not_le.symm
  unfold v_mo v_mc
  simp only [hrc, hd]
  by_cases c1 : dl ≤ now - s
  · by_cases c2 : rs ≤ now - cs
    · rcases hw with e | e <;> rcases ho with e' | e' <;> subst e <;> subst e' <;> simp [c1, c2] <;> exact hc
    · rcases hw with e | e <;> rcases ho with e' | e' <;> subst e <;> subst e' <;> simp [c1, c2] <;> exact hc
  · rcases hw with e | e <;> rcases ho with e' | e' <;> subst e <;> subst e' <;> simp [c1] <;> exact hc
theorem v_bl_eq {I I' : e_I} {q : Nat} {o : Int32} (h1 : I f_p_fault q = I' f_m_fault q) (h2 : o = I' f_m_isOpen q) : v_bl (I f_p_fault q) o = q_bl I' q := by
  unfold v_bl q_bl
  rw [h1, h2]
  by_cases c1 : I' f_m_fault q = 99
  · rw [c1]; simp
  · by_cases c2 : I' f_m_fault q = 100
    · rw [c2]; simp
    · simp [c1, c2]
theorem v_pal {p : e_Sp} {S M : e_I} {nr np : Nat} (hS : v_Sh p S M nr np) (hp : v_Pp np S M) (hf : ∀ q, q < np → ∃ m, m ≤ 2000000 ∧ S f_p_found q = nI m ∧ M f_m_counts q = nI m) (hn : S f_now 0 = M f_m_tick 0) (ht : v_Tm M) : v_Pp np (s_run (v_G (q_rk M) p.2.2.2.2) 0 np S) (s_run q_mv 0 np (s_run q_stA 0 np M)) := by
  intro q hq
  obtain ⟨⟨h1, h2⟩, ⟨h3, h4⟩, h5, ⟨h6, h7⟩, h8, h9⟩ := hp q hq
  obtain ⟨m, hm, f1, f2⟩ := hf q hq
  obtain ⟨t, ht, et⟩ := ht
  obtain ⟨r, j, hr, hj, e, erk⟩ := hS.ex hq
  obtain ⟨lo, dv, -, -, -, -, -, -, -, -, -, ⟨-, g1, g2, -, -, g3⟩, -⟩ := hS.2.2 r hr
  have hE : s_eqN (v_pT ++ v_pA) S (s_run (v_G (q_rk M) p.2.2.2.2) 0 np S) := s_eqN.run v_GN _ _ _
  have hE1 : s_eqN (q_bT ++ v_qA) M (s_run q_stA 0 np M) := s_eqN.run v_stAN _ _ _
  have hr1 := v_Gr (rk := q_rk M) (bs := p.2.2.2.2) (I := S) np
  have hr2 := v_stAr (I := M) np
  have ew : v_sw M q = bI (v_pw S q) := by
    unfold v_sw v_pw s_ar q_is
    rw [f1, f2, h1, v_bI]
    have hm0 : 0 < nI m ↔ m ≠ 0 := ⟨fun z z2 => by rw [z2] at z; exact absurd z (by decide), fun z => nI_lt (a := 0) (by omega) (by omega)⟩
    by_cases c : M f_m_isHeld q = 0
    · rw [if_pos c, c]
      by_cases c2 : 0 < nI m
      · simp [c2, bI]
      · simp [c2, bI]
    · rw [if_neg c, nI_1, decide_eq_true c, Bool.or_true, decide_eq_true (show (0 : Int32) < nI (m + 1) from nI_lt (a := 0) (by omega) (by omega))]
  have es : v_sv M f_m_since q = v_pc S q := by
    unfold v_sv v_pc
    rw [if_neg (by decide), if_pos rfl, ew, h3, h5, hn]
    by_cases c : bI (v_pw S q) = M f_m_isWanted q
    · rw [if_pos c, if_pos c.symm]
    · rw [if_neg c, if_neg (fun z => c z.symm)]
  have evw : v_sv M f_m_isWanted q = bI (v_pw S q) := by
    unfold v_sv
    rw [if_neg (by decide), if_neg (by decide), ew]
  generalize hM1 : s_run q_stA 0 np M = M1 at *
  have hE2 : s_eqN v_oT M1 (s_run q_mv 0 np M1) := s_eqN.run s_eqN.qmv _ _ _
  have hr3 := v_qmvr (I := M1) np
  have a1 : M1 f_m_isWanted q = bI (v_pw S q) := by rw [hr2 _ _ (by decide), if_pos hq, evw]
  have a2 : M1 f_m_since q = v_pc S q := by rw [hr2 _ _ (by decide), if_pos hq, es]
  have a3 : M1 f_m_isOpen q = S f_p_isOpened q := by rw [hE1 _ (by decide), h6]
  have a4 : M1 f_m_closedSince q = M f_m_closedSince q := by rw [hE1 _ (by decide)]
  have ark : q_rk M1 q = r := by rw [← erk]; unfold q_rk; rw [hE1 _ (by decide)]
  have ad : M1 f_mr_delay r = S f_r_delay r := by rw [hE1 _ (by decide), g1]
  have ars : M1 f_mr_rest r = S f_r_rest r := by rw [hE1 _ (by decide), g2]
  have atk : M1 f_m_tick 0 = S f_now 0 := by rw [hE1 _ (by decide), hn]
  have ko := v_pal1 (w := bI (v_pw S q)) (o := S f_p_isOpened q) (s := v_pc S q) (cl := S f_p_closedAt q) (cs := M f_m_closedSince q) (now := S f_now 0) (dl := S f_r_delay r) (rs := S f_r_rest r) (m := t) (bI_or _) (by rw [h6]; exact h7) h8 (by rw [hn, et]) ht (by rw [g2]; exact g3)
  have b1 : q_mv q M1 f_m_isOpen q = v_mo (bI (v_pw S q)) (S f_p_isOpened q) (v_pc S q) (S f_p_closedAt q) (S f_now 0) (S f_r_delay r) (S f_r_rest r) := by
    rw [ko.1]
    unfold q_mv
    rw [a1, a2, a3, a4, ark, ad, ars, atk]
    split
    · rw [s_up_s]
    · split
      · rw [s_up_F (by decide), s_up_s]
      · exact a3
  have b2 : q_mv q M1 f_m_closedSince q = (if bI (v_pw S q) ≠ 0 ∧ S f_p_isOpened q = 0 ∧ S f_r_delay r ≤ S f_now 0 - v_pc S q ∧ S f_r_rest r ≤ S f_now 0 - M f_m_closedSince q then M f_m_closedSince q else if bI (v_pw S q) = 0 ∧ S f_p_isOpened q ≠ 0 ∧ S f_r_delay r ≤ S f_now 0 - v_pc S q then S f_now 0 else M f_m_closedSince q) := by
    unfold q_mv
    rw [a1, a2, a3, a4, ark, ad, ars, atk]
    split
    · rw [s_up_F (by decide), a4]
    · split
      · rw [s_up_s]
      · exact a4
  have c1 := hr1 f_p_isWanted q (by decide)
  have c2 := hr1 f_p_changedAt q (by decide)
  have c3 := hr1 f_p_isOpened q (by decide)
  have c4 := hr1 f_p_closedAt q (by decide)
  rw [if_pos hq] at c1 c2 c3 c4
  have d1 := hr3 f_m_isOpen q (by decide)
  have d2 := hr3 f_m_closedSince q (by decide)
  rw [if_pos hq] at d1 d2
  refine ⟨⟨?_, ?_⟩, ⟨?_, ?_⟩, ?_, ⟨?_, ?_⟩, ?_, ?_⟩
  · rw [hE _ (by decide), hE2 _ (by decide), hE1 _ (by decide)]; exact h1
  · rw [hE2 _ (by decide), hE1 _ (by decide)]; exact h2
  · rw [c1, hE2 _ (by decide), a1]; rfl
  · rw [hE2 _ (by decide), a1]; exact bI_or _
  · rw [c2, hE2 _ (by decide), a2]; rfl
  · rw [c3, d1, b1, ← erk]; rfl
  · rw [d1, b1, ko.1]
    split
    · exact .inr rfl
    · split
      · exact .inl rfl
      · rw [h6]; exact h7
  · rw [c4, d2, b2]
    have := ko.2
    rw [← erk] at this ⊢
    exact this
  · rw [hE _ (by decide), hE2 _ (by decide), hE1 _ (by decide)]; exact h9
