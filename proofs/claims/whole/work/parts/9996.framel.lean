/-! 9996: frames join and leave their lists -/
theorem e_elF {g : Nat} (hg : g < 4) : e_elT (8 + g) = T_MFRAME ∧ ∀ j, e_elI (8 + g) j = 64 * g + j := by
  have h : g = 0 ∨ g = 1 ∨ g = 2 ∨ g = 3 := by omega
  rcases h with rfl | rfl | rfl | rfl <;> exact ⟨rfl, fun _ => rfl⟩
theorem e_elF8 {l : Nat} (h : e_elT l = T_MFRAME) : 8 ≤ l := by
  rcases Nat.lt_or_ge l 8 with h1 | h1
  · have h2 : l = 0 ∨ l = 1 ∨ l = 2 ∨ l = 3 ∨ l = 4 ∨ l = 5 ∨ l = 6 ∨ l = 7 := by omega
    rcases h2 with rfl | rfl | rfl | rfl | rfl | rfl | rfl | rfl <;> exact absurd h (by decide)
  · exact h1
/-- the number that a thing had, and gets, as another joins (or, the other way round, leaves) -/
def s_ri (B t n i : Nat) : Nat := if i = B + t then B + n else if B + t < i ∧ i ≤ B + n then i - 1 else i
def s_rj (B t n i : Nat) : Nat := if i = B + n then B + t else if B + t ≤ i ∧ i < B + n then i + 1 else i
theorem s_rj_ri {B t n : Nat} (h : t ≤ n) (i : Nat) : s_rj B t n (s_ri B t n i) = i := by
  unfold s_rj s_ri
  repeat' split
  all_goals omega
theorem s_ri_rj {B t n : Nat} (h : t ≤ n) (i : Nat) : s_ri B t n (s_rj B t n i) = i := by
  unfold s_rj s_ri
  repeat' split
  all_goals omega
/-- the lists' numbers and sizes -/
def q_O (p : e_Sp) (I : e_I) : Prop := ∀ l, p.2.1 T_LIST l = true → l < 12 ∧ (8 ≤ l → (I f_l_size l).toNatClampNeg ≤ 60)
section s_fl
variable {X : e_XT} {d : Nat} {K : e_KT} {pc ix pl ho g t n : Nat} {ll : e_LL} {st rest : List Value} {p : e_Sp} {I : e_I} {J : e_Jt} {c : Nat × Nat} {w : e_Rw1} {Q : e_Rt → e_SS → Prop} {h : e_Hp}
theorem s_szI {τ : Nat → Nat} {l : Nat} {x y : Int32} : s_up (s_rnI (s_up I f_l_size l x) τ) f_l_size l y = s_up (s_rnI I τ) f_l_size l y := by
  funext F i
  unfold s_up s_rnI
  by_cases e : F = f_l_size ∧ i = l
  · rw [if_pos e, if_pos e]
  · rw [if_neg e, if_neg e]
    by_cases e2 : F = f_mf_isSet
    · rw [if_pos e2, if_pos e2]
      exact if_neg (fun z => absurd (e2.symm.trans z.1) (by decide))
    · rw [if_neg e2, if_neg e2]
      exact if_neg e
/-- the pointers of a frame's list -/
theorem s_is.ptrF (hs : s_is (p, I, J, c, w) h) (hg : g < 4) (hl : p.2.1 T_LIST (8 + g) = true) (hsz : I f_l_size (8 + g) = nI n) (hn : n < 63) {j : Nat} (hj : j < n) : p.2.1 T_MFRAME (64 * g + j) = true ∧ e_toO (e_v h (p.1 T_LARR (8 + g)) j) = some (p.1 T_MFRAME (64 * g + j)) := by
  have hEl := e_elF hg
  obtain ⟨a1, a2, a3, a4⟩ := hs.1.2.2.2.2.1 (8 + g) j hl (by show j < (I f_l_size (8 + g)).toNatClampNeg; rw [hsz, nI_clamp (by omega)]; exact hj)
  rw [hEl.1, hEl.2] at a3 a4
  exact ⟨a3, a4⟩
/-- a frame's list of m things, after its row was changed: the shape, numbers changed by τ -/
theorem s_is.reF {m : Nat} {τ σ : Nat → Nat} {f : Nat → Value} {h' : e_Hp} (hs : s_is (p, I, J, c, w) h) (hg : g < 4) (hl : p.2.1 T_LIST (8 + g) = true) (hA : p.2.1 T_LARR (8 + g) = true) (hO : q_O p I) (hτ : ∀ i, σ (τ i) = i) (hB : ∀ i, i < 64 * g ∨ 64 * g + 60 < i → τ i = i) (hm : m ≤ p.2.2.1 T_LARR (8 + g)) (hm63 : m < 63)
    (hf : ∀ j, j < m → p.2.1 T_MFRAME (τ (64 * g + j)) = true ∧ e_toO (f j) = some (p.1 T_MFRAME (τ (64 * g + j))))
    (hn : e_n h' = e_n h) (hk : ∀ a, e_kd h' a = e_kd h a) (hln : ∀ a, e_ln h' a = e_ln h a) (hv : ∀ a s, e_v h' a s = e_v (e_set (e_rowset h (p.1 T_LARR (8 + g)) f) (p.1 T_LIST (8 + g)) 2 (.int (nI m))) a s) (hc : e_c h' = e_c h ∧ e_s h' = e_s h) : s_is (s_rn p τ σ, s_up (s_rnI I τ) f_l_size (8 + g) (nI m), s_rnJ J τ, c, w) h' := by
  have hEl := e_elF hg
  have R0 := hs.1.szP (l := 8 + g) (m := 0) hl (by decide) (fun j hj => absurd hj (Nat.not_lt_zero j))
  have R1 := R0.ren (τ := τ) (σ := σ) hτ (fun l j h1 h2 h3 => by
    have h8 := e_elF8 h3
    have h12 := hO l h1
    by_cases e : l = 8 + g
    · subst e
      have h2 : j < (s_up I f_l_size (8 + g) (nI 0) f_l_size (8 + g)).toNatClampNeg := h2
      rw [s_up_s, nI_clamp (by omega)] at h2
      exact absurd h2 (Nat.not_lt_zero _)
    · have h2 : j < (s_up I f_l_size (8 + g) (nI 0) f_l_size l).toNatClampNeg := h2
      rw [s_up_i e] at h2
      have h60 := h12.2 h8
      obtain ⟨u, hu, rfl⟩ : ∃ u, u < 4 ∧ l = 8 + u := ⟨l - 8, by omega, by omega⟩
      rw [(e_elF hu).2]
      exact hB _ (by omega))
  have hA' : (s_rn p τ σ).2.1 T_LARR (8 + g) = true := (s_rn_nv (by decide)).trans hA
  have hl' : (s_rn p τ σ).2.1 T_LIST (8 + g) = true := (s_rn_nv (by decide)).trans hl
  have eA : (s_rn p τ σ).1 T_LARR (8 + g) = p.1 T_LARR (8 + g) := s_rn_n (by decide)
  have eL : (s_rn p τ σ).1 T_LIST (8 + g) = p.1 T_LIST (8 + g) := s_rn_n (by decide)
  have e0 : s_rnI (s_up I f_l_size (8 + g) (nI 0)) τ f_l_size (8 + g) = nI 0 := (if_neg (by decide)).trans s_up_s
  have R2 := R1.lar (l := 8 + g) (f := f) hA' (fun j hj => by rw [e0, nI_clamp (by omega)] at hj; exact absurd hj (Nat.not_lt_zero _))
  have R3 := R2.szP (l := 8 + g) (m := m) hl' (by omega) (fun j hj => by
    obtain ⟨b1, b2⟩ := hf j hj
    rw [hEl.1, hEl.2, e_rowset_v]
    exact ⟨hA', hm, b1, b2⟩)
  rw [s_szI, eA, eL] at R3
  refine ⟨R3.heq hn hk hln (fun a s => (hv a s).trans ?_), by rw [hc.1, hc.2, hn]; exact hs.2.1, ?_⟩
  · by_cases e1 : a = p.1 T_LIST (8 + g)
    · subst e1
      by_cases e2 : s = 2
      · subst e2; rw [e_v_eq, e_v_eq]
      · rw [e_v_ne (Or.inr e2), e_v_ne (Or.inr e2), e_rowset_ne (hs.1.1.apart hl hA (fun z => absurd z.1 (by decide))), e_rowset_ne (hs.1.1.apart hl hA (fun z => absurd z.1 (by decide))), e_v_ne (Or.inr e2)]
    · rw [e_v_ne (Or.inl e1), e_v_ne (Or.inl e1)]
      by_cases e3 : a = p.1 T_LARR (8 + g)
      · subst e3; rw [e_rowset_v, e_rowset_v]
      · rw [e_rowset_ne e3, e_rowset_ne e3, e_v_ne (Or.inl e1)]
  · refine s_raw.rn (fun a o ho => ?_)
    obtain ⟨⟨g1, g2, g3, g4⟩, g5⟩ := hs.2.2 a o ho
    refine ⟨⟨by rw [hn]; exact g1, by rw [hk]; exact g2, by rw [hln]; exact g3, fun s => ?_⟩, g5⟩
    rw [hv, e_v_ne (Or.inl (fun z => g5 T_LIST (8 + g) hl z.symm)), e_rowset_ne (fun z => g5 T_LARR (8 + g) hA z.symm)]
    exact g4 s
/-- the step by which a frame joins -/
theorem w_insL (hg : g < 4) (hl : p.2.1 T_LIST (8 + g) = true) (hA : p.2.1 T_LARR (8 + g) = true) (hsz : I f_l_size (8 + g) = nI n) (hat : t ≤ n) (hn : n + 1 ≤ p.2.2.1 T_LARR (8 + g)) (hn60 : n < 60) (hlen : p.2.2.1 T_LARR (8 + g) < 2147483648) (he : p.2.1 T_MFRAME (64 * g + n) = true) (hO : q_O p I) {v1 : Option Value}
    (k : s_w X d K_Jx4a65c_add_7a177 64 [some (.ref (p.1 T_LIST (8 + g))), v1, some (.ref (p.1 T_MFRAME (64 * g + n))), some (.int (nI n)), some (.ref (p.1 T_LARR (8 + g)))] [] (s_rn p (s_ri (64 * g) t n) (s_rj (64 * g) t n), s_up (s_rnI I (s_ri (64 * g) t n)) f_l_size (8 + g) (nI (n + 1)), s_rnJ J (s_ri (64 * g) t n), c, w) Q)
    (ht : v1 = some (.int (nI t))) : s_w X d K_Jx4a65c_add_7a177 49 [some (.ref (p.1 T_LIST (8 + g))), v1, some (.ref (p.1 T_MFRAME (64 * g + n))), some (.int (nI n)), some (.ref (p.1 T_LARR (8 + g)))] [.int (nI (n - t)), .int (nI (t + 1)), .ref (p.1 T_LARR (8 + g)), .int (nI t), .ref (p.1 T_LARR (8 + g))] (p, I, J, c, w) Q := fun h hs => by
  subst ht
  obtain ⟨q1, q2, q3, -, -⟩ := hs.1.1 T_LIST (8 + g) hl
  obtain ⟨u1, u2, u3, -, u5⟩ := hs.1.1 T_LARR (8 + g) hA
  obtain ⟨v1, v2, v3, -, -⟩ := hs.1.1 T_MFRAME _ he
  have u6 : e_ln h (p.1 T_LARR (8 + g)) = p.2.2.1 T_LARR (8 + g) := u5
  have hAL := hs.1.1.apart hA hl (fun z => absurd z.1 (by decide))
  have ptr : ∀ j, j < n → p.2.1 T_MFRAME (64 * g + j) = true ∧ e_toO (e_v h (p.1 T_LARR (8 + g)) j) = some (p.1 T_MFRAME (64 * g + j)) := fun j hj => hs.ptrF hg hl hsz (by omega) hj
  generalize hAd : p.1 T_LARR (8 + g) = A at *
  generalize hLd : p.1 T_LIST (8 + g) = L at *
  generalize hEd : p.1 T_MFRAME (64 * g + n) = E at *
  have key : s_is (s_rn p (s_ri (64 * g) t n) (s_rj (64 * g) t n), s_up (s_rnI I (s_ri (64 * g) t n)) f_l_size (8 + g) (nI (n + 1)), s_rnJ J (s_ri (64 * g) t n), c, w) (e_set (e_set (e_cpyh h A t A (t + 1) (n - t)) A t (.ref E)) L 2 (.int (nI (n + 1)))) := by
    refine hs.reF (f := fun j => if j = t then .ref E else e_cpyv (e_v h A) (e_v h A) t (t + 1) (n - t) j) hg hl hA hO (s_rj_ri hat) (fun i hi => ?_) (by omega) (by omega) (fun j hj => ?_) rfl (fun _ => rfl) (fun _ => rfl) (fun a s => ?_) ⟨rfl, rfl⟩
    · unfold s_ri
      rw [if_neg (by omega), if_neg (by omega)]
    · by_cases e1 : j = t
      · subst e1
        rw [show s_ri (64 * g) j n (64 * g + j) = 64 * g + n from if_pos rfl, if_pos rfl]
        exact ⟨he, by rw [hEd]; rfl⟩
      · rw [if_neg e1]
        by_cases e2 : t < j
        · rw [show s_ri (64 * g) t n (64 * g + j) = 64 * g + (j - 1) from by unfold s_ri; rw [if_neg (by omega), if_pos (by omega)]; omega]
          unfold e_cpyv
          rw [if_pos (by omega), show t + (j - (t + 1)) = j - 1 by omega]
          exact ptr (j - 1) (by omega)
        · rw [show s_ri (64 * g) t n (64 * g + j) = 64 * g + j from by unfold s_ri; rw [if_neg (by omega), if_neg (by omega)]]
          unfold e_cpyv
          rw [if_neg (by omega)]
          exact ptr j (by omega)
    · rw [hAd, hLd]
      by_cases e1 : a = L ∧ s = 2
      · obtain ⟨rfl, rfl⟩ := e1; rw [e_v_eq, e_v_eq]
      · have e4 : a ≠ L ∨ s ≠ 2 := by
          by_cases z : a = L
          · exact Or.inr (fun y => e1 ⟨z, y⟩)
          · exact Or.inl z
        rw [e_v_ne e4, e_v_ne e4]
        by_cases e2 : a = A
        · subst e2
          rw [e_rowset_v, e_v_set]
          unfold e_cpyh
          rw [e_rowset_v]
        · rw [e_v_ne (Or.inl e2), e_rowset_ne e2]
          unfold e_cpyh
          rw [e_rowset_ne e2]
  obtain ⟨r, h', S', q, z, j⟩ := k _ key
  have e1 : nI n + Int32.ofInt 1 = nI (n + 1) := nI_1 n
  have c1 : (nI t).toNatClampNeg = t := nI_clamp (by omega)
  have c2 : (nI (n - t)).toNatClampNeg = n - t := nI_clamp (by omega)
  have c3 : (nI (t + 1)).toNatClampNeg = t + 1 := nI_clamp (by omega)
  refine ⟨r, h', S', q, z, e_J.copy (kd := 105) (ci := 16) (by decide) rfl (by decide) dJx4a65c_add_7a177_49 u2 u2 u3 u3 (nI_pos (by omega)) (nI_pos (by omega)) (nI_pos (by omega)) (by rw [c1, c2, u6]; omega) (by rw [c2, c3, u6]; omega) (Or.inr (Or.inr ⟨rfl, by decide, by decide, fun i hi y hy => ?_⟩)) ?_⟩
  · rw [c2] at hi
    rw [c1] at hy
    obtain ⟨w1, w2⟩ := ptr (t + i) (by omega)
    have e8 := Option.some.inj (w2.symm.trans hy)
    obtain ⟨x1, x2, x3, -, -⟩ := hs.1.1 T_MFRAME _ w1
    rw [← e8]
    exact ⟨x2, x3⟩
  · rw [c1, c2, c3]
    refine e_J.op (pc' := 54) rfl dJx4a65c_add_7a177_52 (e_J.op (pc' := 55) rfl dJx4a65c_add_7a177_54 (e_J.op (pc' := 56) rfl dJx4a65c_add_7a177_55 (e_J.hop (st' := []) (h1 := e_set (e_cpyh h A t A (t + 1) (n - t)) A t (.ref E)) (e_hopC rfl rfl ?_) dJx4a65c_add_7a177_56 (e_J.op (pc' := 58) rfl dJx4a65c_add_7a177_57 (e_J.op (pc' := 59) rfl dJx4a65c_add_7a177_58 (e_J.op (pc' := 60) rfl dJx4a65c_add_7a177_59 (e_J.op (pc' := 61) rfl dJx4a65c_add_7a177_60 (e_J.hop (e_hopA ?_) dJx4a65c_add_7a177_61 j))))))))
    · show (if A < e_n h ∧ E < e_n h ∧ ((e_kd h A = 106 ∧ e_kd h E = 10) ∨ (e_kd h A = 105 ∧ e_kd h E < 21 ∧ e_ob (e_kd h E) = true)) ∧ e_in (nI t) (e_ln h A) = true then some (_, e_set (e_cpyh h A t A (t + 1) (n - t)) A (nI t).toNatClampNeg _) else none) = _
      rw [c1]
      have v3 : e_kd h E = 16 := v3
      refine if_pos ⟨u2, v2, Or.inr ⟨u3, by rw [v3]; decide, by rw [v3]; decide⟩, ?_⟩
      rw [u6]
      exact (s_ix.nI (n := t) (N := p.2.2.1 T_LARR (8 + g)) (by omega) (by omega)).ein
    · rw [e1]
      show (match e_fl 3 48 with
        | some r => if L < e_n h ∧ e_kd h L = r.2.1 ∧ e_ck (e_cY r.2.1 r.2.2.1) (.int (nI (n + 1))) = true ∧ ((e_cT r.2.1 r.2.2.1).2.2.2 = false ∨ (false = true ∧ r.2.1 = 3 ∧ r.2.2.2.2 = 0)) then some ([], e_set (e_set (e_cpyh h A t A (t + 1) (n - t)) A t (.ref E)) L r.2.2.1 (.int (nI (n + 1)))) else none
        | none => none) = _
      exact if_pos ⟨q2, q3, rfl, Or.inl rfl⟩
end s_fl
