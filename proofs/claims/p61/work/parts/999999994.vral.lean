/-! 999999994: reasons reckoned alone -/
theorem v_knI {x y x' y' : Int32} (h : s_isk x y) (h' : s_isk x' y') (e : s_kn x y = s_kn x' y') : x = x' ∧ y = y' := by
  obtain ⟨a, b, h1, h2, -, e1, e2, e3⟩ := h.nat
  obtain ⟨a', b', g1, g2, -, e1', e2', e3'⟩ := h'.nat
  have : a = a' ∧ b = b' := by omega
  exact ⟨by rw [e1, e1', this.1], by rw [e2, e2', this.2]⟩
theorem v_tksI {I : e_I} {c : Nat} {y now : Int32} (h : s_tks I c y now = true) : s_isk (I f_c_from c) y := by
  unfold s_tks s_dn at h
  rw [Bool.and_eq_true, Bool.and_eq_true, Bool.not_eq_true', decide_eq_false_iff_not] at h
  exact s_isk_nn h.1.1
/-- ways, counted the other way round -/
theorem v_wo {I : e_I} {nk dv key : Nat} (hdv : dv < 3) (hk : s_isk (nI dv) (nI key)) : nI (s_wo I nk (nI dv) (nI key) (I f_now 0)) = v_W I nk (s_kn (nI dv) (nI key)) := by
  unfold s_wo v_W
  rw [v_sumS]
  refine v_S_congr (fun c _ => ?_)
  by_cases c1 : (s_isco I c && (decide (I f_c_to c = nI dv) && (s_wy I c && s_tks I c (nI key - I f_c_shift c) (I f_now 0)))) = true
  · rw [if_pos c1]
    rw [Bool.and_eq_true, Bool.and_eq_true, Bool.and_eq_true, decide_eq_true_iff] at c1
    obtain ⟨-, e1, e2, e3⟩ := c1
    obtain ⟨a, b, ha, hb, -, ea, eb, -⟩ := (v_tksI e3).nat
    have es : nI b + I f_c_shift c = nI key := by rw [← eb]; grind
    rw [v_S_one (k := b) hb (fun i hi hne => by
      refine if_neg (fun w => hne ?_)
      have hw := w.1
      unfold v_A at hw
      rw [Bool.and_eq_true, Bool.and_eq_true, decide_eq_true_iff] at hw
      have := (v_knI hw.2.1 hk w.2).2
      have e9 : nI i = nI b := by
        have : nI i + I f_c_shift c = nI b + I f_c_shift c := this.trans es.symm
        generalize nI i = u at *
        generalize nI b = v at *
        grind
      exact (nI_eq (by omega) (by omega)).mp e9)]
    rw [if_pos]
    · rfl
    · refine ⟨?_, by rw [es, e1]⟩
      unfold v_A
      rw [Bool.and_eq_true, Bool.and_eq_true, decide_eq_true_iff, es, e1, ← eb]
      exact ⟨e2, hk, e3⟩
  · rw [if_neg c1, v_S_z (fun i hi => ?_)]
    · exact nI_0
    · refine if_neg (fun w => c1 ?_)
      have hw := w.1
      unfold v_A at hw
      rw [Bool.and_eq_true, Bool.and_eq_true, decide_eq_true_iff] at hw
      have e1 := v_knI hw.2.1 hk w.2
      have e2 : nI i = nI key - I f_c_shift c := by
        have := e1.2
        generalize nI i = u at *
        grind
      have e3 : s_isco I c = true := by
        have := hw.1
        unfold s_wy at this
        rw [Bool.and_eq_true] at this
        exact this.1
      rw [Bool.and_eq_true, Bool.and_eq_true, Bool.and_eq_true, decide_eq_true_iff, ← e2]
      exact ⟨e3, e1.1, hw.1, hw.2.2⟩
/-- which key sounds a note -/
theorem v_ky {I I' : e_I} {k n key : Nat} {y : Int32} (h : v_Stp I I' k) (hkey : key < 61) (hy : 0 ≤ y) : s_nt I k (nI n) (nI key) = y ↔ s_ky I k (nI n) y = nI key := by
  obtain ⟨-, -, -, g4, g5⟩ := h
  obtain ⟨z, hz, ez, ek⟩ := g4 key hkey
  have e2 : s_pl I k (nI key) = nI z := by
    unfold s_pl
    rw [if_neg (fun w => by
      rcases w with w | w
      · exact nI_pos (by omega) w
      · exact nI_ge (b := 61) hkey (by decide) w), nI_clamp (by omega), ez]
  have hz0 : 0 ≤ nI z := nI_pos' (by omega)
  have hz61 : nI z < 61 := nI_lt (b := 61) hz (by decide)
  have hk0 : ¬ nI key = -1 := fun w => by
    have := nI_pos' (n := key) (by omega)
    rw [w] at this
    exact absurd this (by decide)
  unfold s_nt s_ky
  rw [e2]
  generalize I f_s_offsets (k * 4 + (nI n).toNatClampNeg) = off
  generalize I f_s_firsts (k * 4 + (nI n).toNatClampNeg) = f
  generalize I f_s_lasts (k * 4 + (nI n).toNatClampNeg) = l
  constructor
  · intro w
    by_cases c : s_hr I k (nI n) = true ∧ f ≤ nI z ∧ nI z ≤ l
    · rw [if_pos c] at w
      have e3 : y - 36 - off = nI z := by rw [← w]; grind
      rw [e3, if_pos ⟨c.1, c.2.1, c.2.2, hz0, hz61⟩, nI_clamp (by omega), ek]
    · rw [if_neg c] at w
      rw [← w] at hy
      exact absurd hy (by decide)
  · intro w
    by_cases c : s_hr I k (nI n) = true ∧ f ≤ y - 36 - off ∧ y - 36 - off ≤ l ∧ 0 ≤ y - 36 - off ∧ y - 36 - off < 61
    · rw [if_pos c] at w
      obtain ⟨v, hv, ev⟩ := s_nat (n := 61) c.2.2.2.1 c.2.2.2.2 (by decide)
      rw [ev, nI_clamp (by omega)] at w
      obtain ⟨y0, hy0, u1, u2⟩ := g5 v hv
      have : y0 = key := (nI_eq (by omega) (by omega)).mp (u2.symm.trans w)
      subst this
      have ezv : nI z = nI v := by rw [← ez, u1]
      rw [ezv, ← ev, if_pos ⟨c.1, c.2.1, c.2.2.1⟩]
      grind
    · rw [if_neg c] at w
      exact absurd w.symm hk0
theorem v_pinj {p : e_Sp} {I I' : e_I} {nr np : Nat} (h : v_Sh p I I' nr np) {x y x' y' : Int32} (h1 : q_ip I' nr x y = true) (h2 : q_ip I' nr x' y' = true) (e : q_pi I' x' y' = q_pi I' x y) : x' = x ∧ y' = y := by
  obtain ⟨r, j, lo, hr, hj, hl, ex, ey, e1, e2, e3⟩ := h.note h1
  obtain ⟨r', j', lo', hr', hj', hl', ex', ey', e1', e2', e3'⟩ := h.note h2
  rw [e1, e1'] at e
  have k1 := h.rk hr hj
  have k2 := h.rk hr' hj'
  rw [e, k1] at k2
  subst k2
  have : nI lo' = nI lo := e2'.symm.trans e2
  have hj2 : j' = j := by omega
  exact ⟨by rw [ex, ex'], by rw [ey, ey', hj2, ← nI_add, ← nI_add, this]⟩
theorem v_ral {p : e_Sp} {nk nr np n s m L : Nat} {t : Nat → Nat} {a b : e_I × e_Jt} {x y : Int32} (h : v_Sim p nk nr np n t s m L a b) (hi : q_ip b.1 nr x y = true) : s_ral p a.1 nk nr x y = s_ar a.1 (q_pi b.1 x y) := by
  obtain ⟨⟨hR, hF, hX, hKt⟩, hZ⟩ := h
  have hS := hR.1.1
  have hK := hR.1.2.1
  have hy := hR.1.2.2
  have hrl := hR.2.1.1
  obtain ⟨r, j, lo, hr, hj, hl, ex, ey, e1, e2, e3⟩ := hS.note hi
  have hq : q_pi b.1 x y < np := by rw [e1]; exact hS.lt hr hj
  have hy0 : 0 ≤ y := by rw [ey]; exact nI_pos' (by omega)
  have hnp := hS.2.1
  -- what is found
  have hc : a.1 f_p_found (q_pi b.1 x y) = v_S nk (fun k => if s_so a.1 k = true then v_S (s_kcn (a.1 f_k_division k)) (fun key => v_W a.1 nk (s_kn (a.1 f_k_division k) (nI key)) * v_Rc p a.1 nr k key (q_pi b.1 x y)) else 0) := by
    rw [hF.2.2.2.2 _ hq, hX.2.1 _ hq, ← v_AC hK hrl hy, ← v_ex hS hK hrl hy]
  have hg : ∀ k, k < nk → ∀ u, s_raK a.1 nk x y k u = u + (if s_so a.1 k = true then v_S (a.1 f_s_rows k).toNatClampNeg (fun i => if s_isk (a.1 f_k_division k) (if s_rk a.1 k (nI i) = x then s_ky a.1 k (nI i) y else -1) then nI (s_wo a.1 nk (a.1 f_k_division k) (if s_rk a.1 k (nI i) = x then s_ky a.1 k (nI i) y else -1) (a.1 f_now 0)) else 0) else 0) := by
    intro k hk u
    unfold s_raK
    by_cases c : a.1 f_k_kind k = 115
    · rw [if_pos c, v_sumI (f := s_raR a.1 nk k x y) (g := fun i => if s_isk (a.1 f_k_division k) (if s_rk a.1 k (nI i) = x then s_ky a.1 k (nI i) y else -1) ∧ s_so a.1 k = true then nI (s_wo a.1 nk (a.1 f_k_division k) (if s_rk a.1 k (nI i) = x then s_ky a.1 k (nI i) y else -1) (a.1 f_now 0)) else 0) (fun i u => by
        unfold s_raR
        generalize (if s_rk a.1 k (nI i) = x then s_ky a.1 k (nI i) y else -1) = key
        by_cases c9 : s_isk (a.1 f_k_division k) key ∧ s_so a.1 k = true
        · rw [if_pos c9, if_pos c9]
        · rw [if_neg c9, if_neg c9, Int32.add_zero])]
      congr 1
      by_cases c2 : s_so a.1 k = true
      · rw [if_pos c2]
        refine v_S_congr (fun i _ => ?_)
        generalize (if s_rk a.1 k (nI i) = x then s_ky a.1 k (nI i) y else -1) = key
        by_cases c9 : s_isk (a.1 f_k_division k) key
        · rw [if_pos ⟨c9, c2⟩, if_pos c9]
        · rw [if_neg (fun w => c9 w.1), if_neg c9]
      · rw [if_neg c2]
        exact v_S_z (fun i _ => if_neg (fun w => c2 w.2))
    · rw [if_neg c, if_neg (fun w => c (v_sok w)), Int32.add_zero]
  have hsum : ∀ u, s_run (s_raK a.1 nk x y) 0 nk u = u + a.1 f_p_found (q_pi b.1 x y) := by
    intro u
    have key : ∀ n, n ≤ nk → s_run (s_raK a.1 nk x y) 0 n u = u + v_S n (fun k => if s_so a.1 k = true then v_S (a.1 f_s_rows k).toNatClampNeg (fun i => if s_isk (a.1 f_k_division k) (if s_rk a.1 k (nI i) = x then s_ky a.1 k (nI i) y else -1) then nI (s_wo a.1 nk (a.1 f_k_division k) (if s_rk a.1 k (nI i) = x then s_ky a.1 k (nI i) y else -1) (a.1 f_now 0)) else 0) else 0) := by
      intro n
      induction n with
      | zero => exact fun _ => (Int32.add_zero _).symm
      | succ n ih =>
        intro hn
        rw [s_run_l, Nat.zero_add, hg n (by omega), ih (by omega), Int32.add_assoc]
        rfl
    rw [key nk (Nat.le_refl _), hc]
    congr 1
    refine v_S_congr (fun k hk => ?_)
    by_cases c : s_so a.1 k = true
    · rw [if_pos c, if_pos c]
      have hst := hK.stop hk (v_sok c)
      obtain ⟨dv, hdv, ed⟩ := (hK.2 k hk).2.1
      obtain ⟨-, ⟨m9, hm9, er, -, -⟩, -⟩ := hst
      have hst := hK.stop hk (v_sok c)
      rw [ed]
      have e9 : v_S (s_kcn (nI dv)) (fun key => v_W a.1 nk (s_kn (nI dv) (nI key)) * v_Rc p a.1 nr k key (q_pi b.1 x y)) = v_S (a.1 f_s_rows k).toNatClampNeg (fun i => v_S (s_kcn (nI dv)) (fun key => v_W a.1 nk (s_kn (nI dv) (nI key)) * (if s_pat p a.1 nr (s_rk a.1 k (nI i)) (s_nt a.1 k (nI i) (nI key)) = some (q_pi b.1 x y) then 1 else 0))) := by
        rw [v_S_comm]
        refine v_S_congr (fun key _ => ?_)
        unfold v_Rc
        exact v_S_mul.symm
      rw [e9]
      refine v_S_congr (fun i _ => ?_)
      have hp : ∀ key, key < s_kcn (nI dv) → (s_pat p a.1 nr (s_rk a.1 k (nI i)) (s_nt a.1 k (nI i) (nI key)) = some (q_pi b.1 x y) ↔ s_rk a.1 k (nI i) = x ∧ s_ky a.1 k (nI i) y = nI key) := fun key hkey => by
        have h61 := v_kcn dv
        rw [v_patS hS, ← v_ky hst (by omega) hy0]
        constructor
        · intro w; exact v_pinj hS hi w.1 w.2
        · intro w; rw [w.1, w.2]; exact ⟨hi, rfl⟩
      by_cases c1 : s_rk a.1 k (nI i) = x
      · rw [if_pos c1]
        by_cases c2 : s_isk (nI dv) (s_ky a.1 k (nI i) y)
        · rw [if_pos c2]
          have c2' := c2
          obtain ⟨d9, key, h1, h2, -, u1, u2, -⟩ := c2.nat
          rw [u2] at c2' ⊢
          have hkk : key < s_kcn (nI dv) := (v_isk hdv h2).mp c2'
          rw [v_S_one (k := key) hkk (fun i9 hi9 hne => by
            rw [if_neg (fun w => hne ((nI_eq (by have := v_kcn dv; omega) (by omega)).mp (((hp i9 hi9).mp w).2.symm.trans u2))), Int32.mul_zero]), if_pos ((hp key hkk).mpr ⟨c1, u2⟩), Int32.mul_one]
          exact v_wo hdv c2'
        · rw [if_neg c2]
          refine (v_S_z (fun key hkey => ?_)).symm
          rw [if_neg (fun w => c2 (by rw [((hp key hkey).mp w).2]; exact (v_isk hdv (by have := v_kcn dv; omega)).mpr hkey)), Int32.mul_zero]
      · rw [if_neg c1, if_neg (fun w => absurd w.2.2.1 (by decide))]
        refine (v_S_z (fun key hkey => ?_)).symm
        rw [if_neg (fun w => c1 ((hp key hkey).mp w).1), Int32.mul_zero]
    · rw [if_neg c, if_neg c]
  have hheld : a.1 f_p_isHeld (q_pi b.1 x y) = 0 := ((hR.2.2.1.1 _ hq).1.1).trans (hZ.1.2.1 _ hq)
  unfold s_ral s_ar
  rw [hsum, if_pos hheld]
  have e8 : s_ra0 p a.1 nr x y = 0 := by
    unfold s_ra0
    rw [(v_patS hS).mpr ⟨hi, rfl⟩]
    exact if_pos hheld
  rw [e8, Int32.zero_add]
