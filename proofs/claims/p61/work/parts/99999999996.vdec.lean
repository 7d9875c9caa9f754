/-! 99999999996: the tape read -/
theorem v_nmul (a b : Nat) : nI a * nI b = nI (a * b) := (Int32.ofNat_mul a b).symm
theorem v_ndiv {m k : Nat} (hm : m < 2147483648) (hk : k < 2147483648) : nI m / nI k = nI (m / k) := by
  apply Int32.toInt_inj.mp
  have h1 : nI k ≠ -1 := fun z => by
    have := nI_pos' (n := k) hk
    rw [z] at this
    exact absurd this (by decide)
  have h2 : m / k ≤ m := Nat.div_le_self m k
  rw [Int32.toInt_div_of_ne_right _ _ h1, nI_toInt hm, nI_toInt hk, nI_toInt (by omega), Int.tdiv_eq_ediv_of_nonneg (by omega)]
  exact (Int.natCast_ediv m k).symm
theorem v_decE {e : Int32} {u c o : Nat} (he : e = nI ((u * 1280 + c) * 2 + o)) (hu : u ≤ 100000) (hc : c < 1280) (ho : o < 2) : e / 2 / 1280 = nI u ∧ (e / 2 - e / 2 / 1280 * 1280) / 128 = nI (c / 128) ∧ e / 2 - e / 2 / 128 * 128 = nI (c % 128) ∧ e - e / 2 * 2 = nI o := by
  have e1 : e / 2 = nI (u * 1280 + c) := by
    rw [he, nI_div2 (by omega)]
    congr 1; omega
  have e2 : e / 2 / 1280 = nI u := by
    rw [e1, show (1280 : Int32) = nI 1280 from by decide, v_ndiv (by omega) (by omega)]
    congr 1; omega
  have e3 : e / 2 / 128 = nI (u * 10 + c / 128) := by
    rw [e1, show (128 : Int32) = nI 128 from by decide, v_ndiv (by omega) (by omega)]
    congr 1; omega
  refine ⟨e2, ?_, ?_, ?_⟩
  · rw [e2, e1, show (1280 : Int32) = nI 1280 from by decide, v_nmul, nI_sub (by omega), show (128 : Int32) = nI 128 from by decide, v_ndiv (by omega) (by omega)]
    congr 1; omega
  · rw [e3, e1, show (128 : Int32) = nI 128 from by decide, v_nmul, nI_sub (by omega)]
    congr 1; omega
  · rw [e1, he, show (2 : Int32) = nI 2 from by decide, v_nmul, nI_sub (by omega)]
    congr 1; omega
/-- an entry, in numbers -/
theorem v_Ta.en {p : e_Sp} {I I' : e_I} {nr np n s m j : Nat} {t : Nat → Nat} (hS : v_Sh p I I' nr np) (hT : v_Ta p nr n t s m I I') (hj : j < n) : ∃ c o, o < 2 ∧ I' f_mt_is j = nI o ∧ c < 1280 ∧ I f_entries j = nI (((t j - s) * 1280 + c) * 2 + o) ∧ ((I' f_m_kindKept 0 = 114 ∧ ∃ r i lo, r < nr ∧ i < p.2.2.1 T_PARR r ∧ I' f_mt_at j = nI (p.2.2.2.2 r + i) ∧ I f_r_lowest r = nI lo ∧ lo + i < 128 ∧ c = r * 128 + (lo + i)) ∨ (I' f_m_kindKept 0 = 107 ∧ ∃ d b, d < 3 ∧ b < 61 ∧ I' f_mt_division j = nI d ∧ I' f_mt_at j = nI b ∧ s_isk (nI d) (nI b) ∧ c = d * 128 + b)) := by
  obtain ⟨⟨a1, a2, a3, a4, a5, a6⟩, b1, b2, b3, b4⟩ := hT
  obtain ⟨c1, c2, c3, c4⟩ := b1 j hj
  obtain ⟨cd, e1, e2⟩ := b4 j hj
  have ho : ∃ o, o < 2 ∧ I' f_mt_is j = nI o := by
    rcases b3 j hj with z | z
    · exact ⟨0, by omega, z⟩
    · exact ⟨1, by omega, z⟩
  obtain ⟨o, ho, eo⟩ := ho
  have key : ∀ c, cd = nI c → I f_entries j = nI (((t j - s) * 1280 + c) * 2 + o) := by
    intro c ec
    rw [e1, c4, a3, nI_sub c1, ec, eo, show (1280 : Int32) = nI 1280 from by decide, v_nmul, nI_add, show (2 : Int32) = nI 2 from by decide, v_nmul, nI_add]
  rcases e2 with ⟨k1, k2, r, i, hr, hi, k3, k4⟩ | ⟨k1, k2, k3⟩
  · obtain ⟨lo, dv, g1, g2, g3, g4, -⟩ := hS.2.2 r hr
    have hr10 := hS.2.1.1
    have ec : cd = nI (r * 128 + (lo + i)) := by rw [k4, g4, show (128 : Int32) = nI 128 from by decide, v_nmul, nI_add, nI_add]
    exact ⟨_, o, ho, eo, by omega, key _ ec, .inl ⟨k1, r, i, lo, hr, hi, k3, g4, by omega, rfl⟩⟩
  · obtain ⟨d, b, hd, hb, -, ed, eb, -⟩ := k2.nat
    have ec : cd = nI (d * 128 + b) := by rw [k3, ed, eb, show (128 : Int32) = nI 128 from by decide, v_nmul, nI_add]
    exact ⟨_, o, ho, eo, by omega, key _ ec, .inr ⟨k1, d, b, hd, hb, ed, eb, by rw [← ed, ← eb]; exact k2, rfl⟩⟩
theorem v_en0 {I : e_I} {n j : Nat} (h : I f_tsize 0 = nI n) (hn : n < 2147483648) (hj : j < n) : s_en0 I (nI j) = I f_entries j := by
  unfold s_en0
  rw [h, if_pos ⟨nI_pos' (by omega), nI_lt hj (by omega)⟩, nI_clamp (by omega)]
/-- what the class reads -/
theorem v_Ta.rd {p : e_Sp} {I I' : e_I} {nr np n s m j : Nat} {t : Nat → Nat} (hS : v_Sh p I I' nr np) (hT : v_Ta p nr n t s m I I') (hn : n < 2147483648) (hj : j < n) : s_tb0 I (nI j) = nI (t j - t (j - 1)) ∧ bI (s_on0 I (nI j)) = I' f_mt_is j ∧ ((I' f_m_kindKept 0 = 114 ∧ ∃ q, q < np ∧ I' f_mt_at j = nI q ∧ s_pat p I nr (s_hc0 I (nI j)) (s_lc0 I (nI j)) = some q) ∨ (I' f_m_kindKept 0 = 107 ∧ s_hc0 I (nI j) = I' f_mt_division j ∧ s_lc0 I (nI j) = I' f_mt_at j ∧ s_isk (I' f_mt_division j) (I' f_mt_at j))) := by
  obtain ⟨c, o, ho, eo, hc, ee, hk⟩ := hT.en hS hj
  have hsz := hT.1.1
  obtain ⟨hs, hm, hu, -⟩ := hT.2.1 j hj
  obtain ⟨d1, d2, d3, d4⟩ := v_decE ee hu hc ho
  have e0 := v_en0 hsz hn hj
  rw [← e0] at d1 d2 d3 d4
  refine ⟨?_, ?_, ?_⟩
  · unfold s_tb0
    by_cases z : j = 0
    · subst z
      rw [if_neg (by decide), Nat.sub_self]; rfl
    · obtain ⟨i, rfl⟩ : ∃ i, j = i + 1 := ⟨j - 1, by omega⟩
      obtain ⟨c', o', ho', eo', hc', ee', -⟩ := hT.en hS (j := i) (by omega)
      obtain ⟨hs', hm', hu', -⟩ := hT.2.1 i (by omega)
      have f1 := (v_decE ee' hu' hc' ho').1
      rw [← v_en0 hsz hn (j := i) (by omega)] at f1
      rw [if_pos (show (0 : Int32) < nI (i + 1) from nI_lt (a := 0) (by omega) (by omega)), nI_pred, d1, f1, Nat.add_sub_cancel]
      have := hT.2.2.1 i hj
      rw [nI_sub (by omega)]
      congr 1; omega
  · unfold s_on0
    rw [d4, eo]
    rcases (by omega : o = 0 ∨ o = 1) with z | z <;> rw [z] <;> decide
  · rcases hk with ⟨k1, r, i, lo, hr, hi, k2, k3, k4, k5⟩ | ⟨k1, d, b, hd, hb, k2, k3, k4, k5⟩
    · refine .inl ⟨k1, p.2.2.2.2 r + i, hS.lt hr hi, k2, ?_⟩
      have hr10 := hS.2.1.1
      have e1 : s_hc0 I (nI j) = nI r := by
        unfold s_hc0
        rw [d2]
        congr 1; omega
      have e2 : s_lc0 I (nI j) = nI (lo + i) := by
        unfold s_lc0
        rw [d3]
        congr 1; omega
      obtain ⟨_, _, _, g2, _⟩ := hS.2.2 r hr
      have hl : p.2.2.1 T_PARR r ≤ 128 := by omega
      unfold s_pat s_pof
      rw [e1, e2, if_pos ⟨nI_pos' (by omega), nI_lt hr (by omega)⟩, nI_clamp (by omega), k3, nI_add, if_pos ⟨nI_le (by omega) (by omega), nI_lt (by omega) (by omega)⟩, nI_sub (by omega), nI_clamp (by omega)]
      congr 2; omega
    · refine .inr ⟨k1, ?_, ?_, by rw [k2, k3]; exact k4⟩
      · unfold s_hc0
        rw [d2, k2]
        congr 1; omega
      · unfold s_lc0
        rw [d3, k3]
        congr 1; omega
theorem v_Ta.ret {p : e_Sp} {I I' : e_I} {nr n s m : Nat} {t t' : Nat → Nat} (h : v_Ta p nr n t' s m I I') (ht : ∀ j, j < n → t j < 2147483648 ∧ I' f_mt_tick j = nI (t j)) : v_Ta p nr n t s m I I' := by
  obtain ⟨a, b1, b2, b3, b4⟩ := h
  have e : ∀ j, j < n → t' j = t j := fun j hj => by
    obtain ⟨c1, c2, c3, c4⟩ := b1 j hj
    exact (nI_eq (by have := a.2.2.2.2.2; omega) (ht j hj).1).mp (c4.symm.trans (ht j hj).2)
  refine ⟨a, fun j hj => ?_, fun j hj => ?_, b3, b4⟩
  · rw [← e j hj]; exact b1 j hj
  · rw [← e j (by omega), ← e (j + 1) hj]; exact b2 j hj
theorem v_Rel.ta {p : e_Sp} {nk nr np n s m n1 s1 m1 : Nat} {t t1 : Nat → Nat} {I I' : e_I} {J J' : e_Jt} (h : v_Rel p nk nr np n t s m I I' J J') (ht : v_Ta p nr n1 t1 s1 m1 I I') : v_Rel p nk nr np n1 t1 s1 m1 I I' J J' := ⟨h.1, h.2.1, ⟨h.2.2.1.1, ht, h.2.2.1.2.2⟩, h.2.2.2⟩
theorem v_B.ret {p : e_Sp} {nk nr np n s m : Nat} {t t' : Nat → Nat} {a b : e_I × e_Jt} (h : v_B p nk nr np n t' s m a b) (ht : ∀ j, j < n → t j < 2147483648 ∧ b.1 f_mt_tick j = nI (t j)) : v_B p nk nr np n t s m a b := ⟨h.1.ta (h.1.2.2.1.2.1.ret ht), h.2⟩
