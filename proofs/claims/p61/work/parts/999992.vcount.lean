/-! 999992: what is found is what is counted -/
/-- keys beside each other -/
def v_Ky (I I' : e_I) : Prop := v_eq 183 f_a_pressed f_m_isDown I I' ∧ v_eq 183 f_a_pressedAt f_m_wentDown I I' ∧ I f_now 0 = I' f_m_tick 0 ∧ (∀ d, d < 3 → I f_a_lowest d = q_eg I' (nI d) 0 ∧ I f_a_highest d = q_eg I' (nI d) 1) ∧ I f_isTutti 0 = I' f_m_isTutti 0 ∧ I f_crescendo 0 = I' f_m_crescendo 0
theorem v_isk {d n : Nat} (hd : d < 3) (hn : n < 61) : s_isk (nI d) (nI n) ↔ n < s_kcn (nI d) := by
  unfold s_kcn
  by_cases c : d = 0
  · subst c
    rw [if_pos nI_0]
    exact ⟨fun h => (nI_ltI (b := 32) (by omega) (by decide)).mp (h.2.2.2.2 nI_0), fun h => ⟨nI_pos' (by omega), nI_lt (b := 3) hd (by decide), nI_pos' (by omega), nI_lt (b := 61) hn (by decide), fun _ => nI_lt (b := 32) h (by decide)⟩⟩
  · have c1 : ¬ nI d = 0 := nI_ne0 (by omega) (by omega)
    rw [if_neg c1]
    exact ⟨fun _ => hn, fun h => ⟨nI_pos' (by omega), nI_lt (b := 3) hd (by decide), nI_pos' (by omega), nI_lt (b := 61) hn (by decide), fun z => absurd z c1⟩⟩
theorem v_kcn (d : Nat) : s_kcn (nI d) ≤ 61 := by unfold s_kcn; split <;> omega
theorem v_kn {d n : Nat} (hd : d < 3) (hn : n < 61) : s_kn (nI d) (nI n) = d * 61 + n := by
  unfold s_kn; rw [nI_clamp (by omega), nI_clamp (by omega)]
theorem v_Rcw {p : e_Sp} {I I' : e_I} {nk nr np k key q : Nat} (h : v_Sh p I I' nr np) (hK : v_Stp I I' k) (hkey : key < 61) : v_Rc p I nr k key q = v_Rw I' nr k (nI key) q := by
  obtain ⟨-, ⟨m, hm, h1, h2, h3⟩, h4, -⟩ := hK
  unfold v_Rc v_Rw
  rw [h1, h2, nI_clamp (by omega), nI_clamp (n := key) (by omega)]
  refine v_S_congr (fun n hn => ?_)
  obtain ⟨g1, g2, g3, g4⟩ := h3 n hn
  have eh : s_hr I k (nI n) = true := by
    unfold s_hr
    rw [h1, decide_eq_true (nI_pos' (by omega)), decide_eq_true (nI_lt hn (by omega)), decide_eq_true (show nI n < 4 from nI_lt (b := 4) (by omega) (by decide))]
    rfl
  have e1 : s_rk I k (nI n) = I' f_mk_ranks (k * 4 + n) := by
    unfold s_rk
    rw [if_pos eh, nI_clamp (by omega), g1]
  have e2 : s_pl I k (nI key) = I' f_mk_wires (k * 61 + key) := by
    unfold s_pl
    rw [if_neg (fun z => by
      rcases z with z | z
      · exact nI_pos (by omega) z
      · exact nI_ge (b := 61) hkey (by decide) z), nI_clamp (by omega), h4 key hkey]
  have e3 : s_nt I k (nI n) (nI key) = if I' f_mk_froms (k * 4 + n) ≤ I' f_mk_wires (k * 61 + key) ∧ I' f_mk_wires (k * 61 + key) ≤ I' f_mk_tos (k * 4 + n) then q_nt I' k (I' f_mk_wires (k * 61 + key)) n else -1 := by
    unfold s_nt q_nt
    rw [e2, nI_clamp (by omega), g2, g3, g4, eh]
    simp
  rw [e1, e3, v_pat h]
  by_cases c : I' f_mk_froms (k * 4 + n) ≤ I' f_mk_wires (k * 61 + key) ∧ I' f_mk_wires (k * 61 + key) ≤ I' f_mk_tos (k * 4 + n)
  · rw [if_pos c]
    by_cases c1 : q_ip I' nr (I' f_mk_ranks (k * 4 + n)) (q_nt I' k (I' f_mk_wires (k * 61 + key)) n) = true
    · rw [if_pos c1]
      simp [c, c1]
    · rw [if_neg c1, if_neg (by simp), if_neg (fun z => c1 z.1.2)]
  · rw [if_neg c, if_neg (c := _ ∧ _) (fun z => c z.1.1), if_neg]
    have : q_ip I' nr (I' f_mk_ranks (k * 4 + n)) (-1) = false := by
      unfold q_ip
      by_cases c1 : 0 ≤ I' f_mk_ranks (k * 4 + n) ∧ I' f_mk_ranks (k * 4 + n) < nI nr
      · obtain ⟨r, hr, e⟩ := s_nat c1.1 c1.2 (by have := h.2.1.1; omega)
        obtain ⟨lo, dv, g1, g2, -, g3, g4, -⟩ := h.2.2 r hr
        rw [e, nI_clamp (by have := h.2.1.1; omega), g4, decide_eq_false (p := nI lo ≤ -1 ∧ _) (fun z => absurd (Int32.le_trans (nI_pos' (n := lo) (by omega)) z.1) (by decide)), Bool.and_false]
      · rw [decide_eq_false c1, Bool.false_and]
    rw [this]; simp
/-- one way, one key -/
theorem v_inner {I I' : e_I} {nr k c n dv q : Nat} (hdv : dv < 3) : v_S (s_kcn (nI dv)) (fun key => (if v_A I c n = true ∧ s_kn (I f_c_to c) (nI n + I f_c_shift c) = s_kn (nI dv) (nI key) then 1 else 0) * v_Rw I' nr k (nI key) q) = if v_A I c n = true ∧ I f_c_to c = nI dv then v_Rw I' nr k (nI n + I f_c_shift c) q else 0 := by
  by_cases hA : v_A I c n = true
  · have hi : s_isk (I f_c_to c) (nI n + I f_c_shift c) := by
      unfold v_A at hA
      rw [Bool.and_eq_true, Bool.and_eq_true, decide_eq_true_iff] at hA
      exact hA.2.1
    have hi' := hi
    obtain ⟨a, b, ha, hb, hab, e1, e2, e3⟩ := hi.nat
    have hkc := v_kcn dv
    by_cases c1 : a = dv
    · subst c1
      rw [if_pos ⟨hA, e1⟩, e3, e2]
      have hbk : b < s_kcn (nI a) := (v_isk ha hb).mp (by rw [← e1, ← e2]; exact hi')
      rw [v_S_one hbk (fun i hi hne => by
        rw [if_neg (fun z => hne (by rw [v_kn ha (by omega)] at z; omega)), Int32.zero_mul])]
      rw [if_pos ⟨hA, (v_kn ha hb).symm⟩, Int32.one_mul]
    · rw [if_neg (fun z => c1 ((nI_eq (by omega) (by omega)).mp (e1.symm.trans z.2)))]
      refine v_S_z (fun i hi => ?_)
      rw [if_neg (fun z => c1 (by rw [e3, v_kn hdv (by omega)] at z; omega)), Int32.zero_mul]
  · rw [if_neg (fun z => hA z.1)]
    exact v_S_z (fun i hi => by rw [if_neg (fun z => hA z.1), Int32.zero_mul])
theorem v_Kn.stop {I I' : e_I} {nk k : Nat} (h : v_Kn I I' nk) (hk : k < nk) (hs : I f_k_kind k = 115) : v_Stp I I' k := by
  rcases (h.2 k hk).2.2.2 with h | h | h | h
  · rw [hs] at h; exact absurd h.2.1 (by decide)
  · rw [hs] at h; exact absurd h.2.1 (by decide)
  · exact h.2.2
  · rw [hs] at h; exact absurd h.2 (by decide)
theorem v_sok {I : e_I} {k : Nat} (h : s_so I k = true) : I f_k_kind k = 115 := by
  unfold s_so at h
  rw [Bool.and_eq_true, decide_eq_true_iff] at h
  exact h.1
/-- the sums are exchanged -/
theorem v_ex {p : e_Sp} {I I' : e_I} {nk nr np q : Nat} (h : v_Sh p I I' nr np) (hK : v_Kn I I' nk) (hr : v_eq 16 f_a_relaysOn f_m_isRelay I I') (hy : v_Ky I I') : v_S nk (fun k => if s_so I k = true then v_S (s_kcn (I f_k_division k)) (fun key => v_W I nk (s_kn (I f_k_division k) (nI key)) * v_Rc p I nr k key q) else 0) = v_S nk (fun c => v_S 61 (fun n => if v_A I c n = true then v_P I' nk nr (I f_c_to c) (nI n + I f_c_shift c) q else 0)) := by
  have e1 : ∀ k, k < nk → (if s_so I k = true then v_S (s_kcn (I f_k_division k)) (fun key => v_W I nk (s_kn (I f_k_division k) (nI key)) * v_Rc p I nr k key q) else 0) = v_S nk (fun c => v_S 61 (fun n => if s_so I k = true then (if v_A I c n = true ∧ I f_c_to c = I f_k_division k then v_Rw I' nr k (nI n + I f_c_shift c) q else 0) else 0)) := by
    intro k hk
    by_cases c : s_so I k = true
    · simp only [if_pos c]
      obtain ⟨dv, hdv, ed⟩ := (hK.2 k hk).2.1
      rw [ed]
      rw [v_S_congr (g := fun key => v_S nk (fun c => v_S 61 (fun n => (if v_A I c n = true ∧ s_kn (I f_c_to c) (nI n + I f_c_shift c) = s_kn (nI dv) (nI key) then 1 else 0) * v_Rw I' nr k (nI key) q))) (fun key hkey => by
        rw [v_Rcw (nk := nk) h (hK.stop hk (v_sok c)) (by have := v_kcn dv; omega)]
        unfold v_W
        rw [← v_S_rmul]
        exact v_S_congr (fun c _ => v_S_rmul.symm))]
      rw [v_S_comm]
      refine v_S_congr (fun c _ => ?_)
      rw [v_S_comm]
      exact v_S_congr (fun n _ => v_inner hdv)
    · simp only [if_neg c]
      exact (v_S_z (fun _ _ => v_S_z (fun _ _ => rfl))).symm
  rw [v_S_congr e1, v_S_comm]
  refine v_S_congr (fun c _ => ?_)
  rw [v_S_comm]
  refine v_S_congr (fun n _ => ?_)
  by_cases cA : v_A I c n = true
  · rw [if_pos cA]
    unfold v_P
    refine v_S_congr (fun k hk => ?_)
    have ek := (hK.2 k hk).1
    by_cases cs : I f_k_kind k = 115
    · have es := v_so hK hr hy.2.2.2.2.1 hy.2.2.2.2.2 hk cs
      rw [← ek.1, ← ek.2.1, ← es]
      by_cases c1 : s_so I k = true
      · rw [if_pos c1]
        by_cases c2 : I f_c_to c = I f_k_division k
        · rw [if_pos ⟨cA, c2⟩, if_pos ⟨cs, c2.symm, c1⟩]
        · rw [if_neg (fun z => c2 z.2), if_neg (fun z => c2 z.2.1.symm)]
      · rw [if_neg c1, if_neg (fun z => c1 z.2.2)]
    · rw [if_neg (fun z => cs (v_sok z)), if_neg (fun z => cs (by rw [ek.1]; exact z.1))]
  · rw [if_neg cA]
    exact v_S_z (fun k _ => by
      by_cases z : s_so I k = true
      · rw [if_pos z, if_neg (fun z => cA z.1)]
      · rw [if_neg z])
/-! the other side -/
abbrev v_Bc (I : e_I) (d n c : Nat) : Prop := I f_mk_kind c = 99 ∧ I f_mk_division c = nI d ∧ q_ct I c = true ∧ q_tk I c (nI n) = true ∧ s_isk (I f_mk_to c) (nI n + I f_mk_shift c)
def v_C (I : e_I) (nk nr q : Nat) : Int32 := v_S 3 (fun d => v_S (s_kcn (nI d)) (fun n => if I f_m_isDown (s_kn (nI d) (nI n)) = 0 then 0 else (if q_ct I d = true then 0 else v_P I nk nr (nI d) (nI n) q) + v_S nk (fun c => if v_Bc I d n c then v_P I nk nr (I f_mk_to c) (nI n + I f_mk_shift c) q else 0)))
theorem v_ctN {I I1 : e_I} (h : s_eqN [f_m_counts] I I1) : q_ct I1 = q_ct I := by
  funext k; unfold q_ct; simp only [h f_mk_isDrawn (by decide), h f_mk_relay (by decide), h f_m_isRelay (by decide)]
theorem v_tkN {I I1 : e_I} (h : s_eqN [f_m_counts] I I1) : q_tk I1 = q_tk I := by
  funext k y; unfold q_tk q_eg q_egs; simp only [h f_mk_letter (by decide), h f_m_isDown (by decide), h f_mk_division (by decide), h f_m_wentDown (by decide), h f_m_tick (by decide)]
theorem v_rcC {I I1 : e_I} (h : s_eqN [f_m_counts] I I1) {nk nr d n c q : Nat} : q_rcC nk nr d n c I1 f_m_counts q = I1 f_m_counts q + (if v_Bc I d n c then v_P I nk nr (I f_mk_to c) (nI n + I f_mk_shift c) q else 0) := by
  unfold q_rcC v_Bc
  rw [v_ctN h, v_tkN h, h f_mk_kind (by decide), h f_mk_division (by decide), h f_mk_to (by decide), h f_mk_shift (by decide)]
  by_cases c1 : I f_mk_kind c = 99 ∧ I f_mk_division c = nI d ∧ q_ct I c = true ∧ q_tk I c (nI n) = true ∧ s_isk (I f_mk_to c) (nI n + I f_mk_shift c)
  · rw [if_pos c1, if_pos c1, v_pl, v_P.N h]
  · rw [if_neg c1, if_neg c1, Int32.add_zero]
theorem v_rcCN {nk nr d n c : Nat} {I : e_I} : s_eqN [f_m_counts] I (q_rcC nk nr d n c I) := by
  unfold q_rcC
  split
  · exact v_plN
  · exact s_eqN.rfl'
theorem v_rcKN {nk nr d n : Nat} {I : e_I} : s_eqN [f_m_counts] I (q_rcK nk nr d n I) := by
  unfold q_rcK
  split
  · exact s_eqN.rfl'
  · refine s_eqN.trans ?_ (s_eqN.run (fun c I => v_rcCN) _ _ _)
    split
    · exact s_eqN.rfl'
    · exact v_plN
theorem v_rcK {I I1 : e_I} (h : s_eqN [f_m_counts] I I1) {nk nr d n q : Nat} : q_rcK nk nr d n I1 f_m_counts q = I1 f_m_counts q + (if I f_m_isDown (s_kn (nI d) (nI n)) = 0 then 0 else (if q_ct I d = true then 0 else v_P I nk nr (nI d) (nI n) q) + v_S nk (fun c => if v_Bc I d n c then v_P I nk nr (I f_mk_to c) (nI n + I f_mk_shift c) q else 0)) := by
  unfold q_rcK
  rw [h f_m_isDown (by decide), v_ctN h]
  by_cases c : I f_m_isDown (s_kn (nI d) (nI n)) = 0
  · rw [if_pos c, if_pos c, Int32.add_zero]
  · rw [if_neg c, if_neg c]
    have h2 : s_eqN [f_m_counts] I (if q_ct I d = true then I1 else q_pl nk nr (nI d) (nI n) I1) := by
      split
      · exact h
      · exact h.trans v_plN
    rw [v_acc (f := q_rcC nk nr d n) (T := [f_m_counts]) (F := f_m_counts) (q := q) (m := nk) (I0 := I) (g := fun c => if v_Bc I d n c then v_P I nk nr (I f_mk_to c) (nI n + I f_mk_shift c) q else 0) (fun c I => v_rcCN) (fun c I2 _ h3 => v_rcC h3) h2 nk (Nat.le_refl _), ← Int32.add_assoc]
    congr 1
    by_cases c2 : q_ct I d = true
    · rw [if_pos c2, if_pos c2, Int32.add_zero]
    · rw [if_neg c2, if_neg c2, v_pl, v_P.N h]
theorem v_rcC0 {I : e_I} {nk nr np q : Nat} (hq : q < np) : q_rc nk nr np I f_m_counts q = v_C (q_rel nk I) nk nr q := by
  have h0 : s_eqN [f_m_counts] (q_rel nk I) (s_fill (q_rel nk I) f_m_counts np 0) := s_eqN.fill (by decide)
  have e := v_acc (f := q_rcD nk nr) (T := [f_m_counts]) (F := f_m_counts) (q := q) (m := 3) (I0 := q_rel nk I) (I := s_fill (q_rel nk I) f_m_counts np 0) (g := fun d => v_S (s_kcn (nI d)) (fun n => if q_rel nk I f_m_isDown (s_kn (nI d) (nI n)) = 0 then 0 else (if q_ct (q_rel nk I) d = true then 0 else v_P (q_rel nk I) nk nr (nI d) (nI n) q) + v_S nk (fun c => if v_Bc (q_rel nk I) d n c then v_P (q_rel nk I) nk nr (q_rel nk I f_mk_to c) (nI n + q_rel nk I f_mk_shift c) q else 0))) (fun d I => s_eqN.run (fun n I => v_rcKN) _ _ _) (fun d I1 _ h1 => v_acc (f := q_rcK nk nr d) (T := [f_m_counts]) (F := f_m_counts) (q := q) (m := s_kcn (nI d)) (I0 := q_rel nk I) (fun n I => v_rcKN) (fun n I2 _ h2 => v_rcK h2) h1 _ (Nat.le_refl _)) h0 3 (Nat.le_refl _)
  show s_run (q_rcD nk nr) 0 3 (s_fill (q_rel nk I) f_m_counts np 0) f_m_counts q = _
  rw [e]
  show (if f_m_counts = f_m_counts ∧ q < np then (0 : Int32) else _) + _ = _
  rw [if_pos ⟨rfl, hq⟩, Int32.zero_add]
  rfl
