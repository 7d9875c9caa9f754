/-! 999999999998: ranges, the mean pitch -/
def v_in (x : Int32) (a b : Int) : Prop := a ≤ x.toInt ∧ x.toInt ≤ b
theorem v_bm {x : Int} (h1 : -2147483648 ≤ x) (h2 : x ≤ 2147483647) : x.bmod (2 ^ 32) = x := Int.bmod_eq_of_le_mul_two (by omega) (by omega)
theorem v_in.add {x y : Int32} {a b c d : Int} (h : v_in x a b) (k : v_in y c d) (h1 : -2147483648 ≤ a + c) (h2 : b + d ≤ 2147483647) : v_in (x + y) (a + c) (b + d) := by
  unfold v_in at *
  rw [Int32.toInt_add, v_bm (by omega) (by omega)]
  omega
theorem v_in.sub {x y : Int32} {a b c d : Int} (h : v_in x a b) (k : v_in y c d) (h1 : -2147483648 ≤ a - d) (h2 : b - c ≤ 2147483647) : v_in (x - y) (a - d) (b - c) := by
  unfold v_in at *
  rw [Int32.toInt_sub, v_bm (by omega) (by omega)]
  omega
theorem v_in.mono {x : Int32} {a b c d : Int} (h : v_in x a b) (h1 : c ≤ a) (h2 : b ≤ d) : v_in x c d := by
  unfold v_in at *
  omega
theorem v_in.max {x : Int32} {a b : Int} (h : v_in x a b) (hb : 0 ≤ b) : v_in (s_max 0 x) 0 b := by
  unfold v_in s_max at *
  have z : (0 : Int32).toInt = 0 := rfl
  by_cases c : 0 < x
  · rw [if_pos c]
    have := Int32.lt_iff_toInt_lt.mp c
    omega
  · rw [if_neg c, z]; omega
theorem v_in.div {x k : Int32} {a b : Int} {m : Nat} (h : v_in x a b) (hk : k.toInt = m) (hm : 0 < m) (ha : a ≤ 0) (hb : 0 ≤ b) : v_in (x / k) a b := by
  unfold v_in at *
  have h1 : k ≠ -1 := fun z => by
    rw [z] at hk
    have : (-1 : Int32).toInt = -1 := rfl
    omega
  rw [Int32.toInt_div_of_ne_right _ _ h1, hk]
  generalize x.toInt = y at *
  have hmi : (0 : Int) < m := by omega
  rcases Int.le_total 0 y with c | c
  · rw [Int.tdiv_eq_ediv_of_nonneg c]
    have h2 := Int.ediv_nonneg c (Int.le_of_lt hmi)
    have h3 := Int.ediv_le_self (m : Int) c
    omega
  · obtain ⟨z, rfl⟩ : ∃ z, y = -z := ⟨-y, by omega⟩
    rw [Int.neg_tdiv, Int.tdiv_eq_ediv_of_nonneg (by omega)]
    have h2 := Int.ediv_nonneg (a := z) (by omega) (Int.le_of_lt hmi)
    have h3 := Int.ediv_le_self (m : Int) (a := z) (by omega)
    omega
theorem v_in.nI {n : Nat} (h : n < 2147483648) : v_in (nI n) n n := by
  unfold v_in
  rw [nI_toInt h]
  omega
theorem v_in.mul {x y : Int32} {a b : Nat} (h : v_in x (-a) a) (k : v_in y (-b) b) (hab : a * b ≤ 1000000000) : v_in (x * y) (-(a * b : Nat)) (a * b : Nat) := by
  unfold v_in at *
  have h1 : x.toInt.natAbs ≤ a := by omega
  have h2 : y.toInt.natAbs ≤ b := by omega
  have h3 : (x.toInt * y.toInt).natAbs ≤ a * b := by rw [Int.natAbs_mul]; exact Nat.mul_le_mul h1 h2
  generalize a * b = c at *
  rw [Int32.toInt_mul, v_bm (by omega) (by omega)]
  omega
/-- numbers that calls bound -/
def v_Rg (nr np : Nat) (I : e_I) : Prop := (∀ q, q < np → v_in (I f_m_tuning q) (-50) 50) ∧ (∀ i, i < 12 → v_in (I f_m_temper i) (-50) 50) ∧ v_in (I f_m_heat 0) (-20) 20 ∧ (∀ r, r < nr → v_in (I f_mr_heat r) (-9) 9 ∧ v_in (I f_mr_wind r) 0 9) ∧ ∀ d, d < 3 → v_in (I f_m_supply d) 0 999
def v_RgM : List Nat := [f_m_tuning, f_m_temper, f_m_heat, f_mr_heat, f_mr_wind, f_m_supply]
theorem v_Rg.N {nr np : Nat} {T : List Nat} {I I1 : e_I} (h : v_Rg nr np I) (e : s_eqN T I I1) (hT : v_dj v_RgM T = true) : v_Rg nr np I1 := by
  unfold v_Rg at h ⊢
  simp only [e f_m_tuning (v_dj.o hT (by decide)), e f_m_temper (v_dj.o hT (by decide)), e f_m_heat (v_dj.o hT (by decide)), e f_mr_heat (v_dj.o hT (by decide)), e f_mr_wind (v_dj.o hT (by decide)), e f_m_supply (v_dj.o hT (by decide))]
  exact h
theorem v_usR {p : e_Sp} {I I' : e_I} {nr np d : Nat} (hS : v_Sh p I I' nr np) (hr : v_Rg nr np I') : ∀ n, n ≤ np → v_in (s_run (q_us I' d) 0 n 0) 0 (9 * n) := by
  intro n
  induction n with
  | zero => intro _; exact ⟨Int.le_refl _, Int.le_refl _⟩
  | succ n ih =>
    intro hn
    rw [s_run_l, Nat.zero_add]
    have ih := ih (by omega)
    have h12 := hS.2.1.2
    obtain ⟨r, j, hr', hj, e, erk⟩ := hS.ex (q := n) (by omega)
    have hk : v_in (if q_bl I' n = true ∧ I' f_mr_division (q_rk I' n) = nI d then I' f_mr_wind (q_rk I' n) else 0) 0 9 := by
      split
      · rw [erk]; exact (hr.2.2.2.1 r hr').2
      · exact ⟨by decide, by decide⟩
    unfold q_us
    exact (ih.add hk (by omega) (by omega)).mono (by omega) (by omega)
theorem v_qvR {p : e_Sp} {I I' : e_I} {nk nr np d : Nat} (hS : v_Sh p I I' nr np) (hr : v_Rg nr np I') (hd : d < 3) : v_in (v_qv I' nk np d) 0 100 := by
  have h12 := hS.2.1.2
  have h1 := v_usR (d := d) hS hr np (Nat.le_refl _)
  have h2 := hr.2.2.2.2 d hd
  unfold v_qv q_wd
  have h3 := (h1.sub h2 (by omega) (by omega)).max (by omega)
  have h4 := h3.add (y := 1) (c := 1) (d := 1) ⟨by decide, by decide⟩ (by omega) (by omega)
  have h4 : v_in (s_max 0 (s_run (q_us I' d) 0 np 0 - I' f_m_supply d) + 1) 0 12000 := h4.mono (by omega) (by omega)
  have h5 := h4.div (k := 2) (m := 2) rfl (by omega) (by omega) (by omega)
  have h6 : v_in (100 - (s_max 0 (s_run (q_us I' d) 0 np 0 - I' f_m_supply d) + 1) / 2) (100 - 12000) (100 - 0) := v_in.sub (x := 100) (a := 100) (b := 100) ⟨by decide, by decide⟩ h5 (by omega) (by omega)
  have h7 : v_in (if q_tr I' nk (nI d) = true then 10 else 0) 0 10 := by
    split
    · exact ⟨by decide, by decide⟩
    · exact ⟨by decide, by decide⟩
  have h8 := h6.sub h7 (by omega) (by omega)
  exact (h8.mono (c := -20000) (d := 100) (by omega) (by omega)).max (by omega)
/-- a pitch is small -/
theorem v_ptR {p : e_Sp} {nk nr np n s m L q : Nat} {t : Nat → Nat} {a b : e_I × e_Jt} (h : v_Sim p nk nr np n t s m L a b) (hr : v_Rg nr np b.1) (hq : q < np) : v_in (q_pt b.1 q) (-20000) 20000 := by
  have hS := h.1.1.1.1
  obtain ⟨r, j, hr', hj, e, erk⟩ := hS.ex hq
  obtain ⟨lo, dv, c1, c2, hdv, a3, a4, a5, a6, a7, a8, -, -⟩ := hS.2.2 r hr'
  have hn : q_no b.1 q = nI (lo + j) := by
    unfold q_no
    rw [erk, a4, a6, e, nI_add, nI_sub (by omega)]
    congr 1; omega
  have hmod : nI (lo + j) - nI (lo + j) / 12 * 12 = nI ((lo + j) % 12) := v_r12 (m := lo + j) (by omega)
  unfold q_pt
  rw [hn, hmod, nI_clamp (by omega), erk, a8, nI_clamp (by omega)]
  have w := h.1.2.2.1.2.2.2.2.1.resolve_left (by omega) dv hdv
  have w2 := v_qvR (nk := nk) hS hr hdv
  rw [← w] at w2
  have t1 : v_in (100 * nI (lo + j)) 0 12700 := by
    rw [show (100 : Int32) = nI 100 from by decide, v_nmul]
    exact (v_in.nI (n := 100 * (lo + j)) (by omega)).mono (by omega) (by omega)
  have t2 := hr.2.1 ((lo + j) % 12) (by omega)
  have t3 := hr.1 q hq
  have t4 := (hr.2.2.1.mono (c := -(20 : Nat)) (d := (20 : Nat)) (by omega) (by omega)).mul ((hr.2.2.2.1 r hr').1.mono (c := -(9 : Nat)) (d := (9 : Nat)) (by omega) (by omega)) (by omega)
  have t5 := t4.div (k := 10) (m := 10) rfl (by omega) (by omega) (by omega)
  have t6 := (v_in.sub (x := 100) (a := 100) (b := 100) ⟨by decide, by decide⟩ w2 (by omega) (by omega)).div (k := 10) (m := 10) rfl (by omega) (by omega) (by omega)
  exact ((((t1.add t2 (by omega) (by omega)).add t3 (by omega) (by omega)).add t5 (by omega) (by omega)).sub t6 (by omega) (by omega)).mono (by omega) (by omega)
theorem v_bm64 {x : Int} (h1 : -1000000000 ≤ x) (h2 : x ≤ 1000000000) : x.bmod (2 ^ 64) = x := Int.bmod_eq_of_le_mul_two (by omega) (by omega)
/-- two sums of small numbers -/
theorem v_sum2 {I : e_I} {np : Nat} (h : ∀ q, q < np → v_in (q_pt I q) (-20000) 20000) (h12 : np ≤ 1280) : ∀ n, n ≤ np → (v_S n (fun q => if I f_m_speaks q = 0 then 0 else q_pt I q)).toInt = (s_run (q_mps I) 0 n 0).toInt ∧ v_in (v_S n (fun q => if I f_m_speaks q = 0 then 0 else q_pt I q)) (-(20000 * n)) (20000 * n) := by
  intro n
  induction n with
  | zero => intro _; exact ⟨rfl, ⟨by show (-(20000 * ((0 : Nat) : Int))) ≤ (0 : Int32).toInt; decide, by show (0 : Int32).toInt ≤ 20000 * ((0 : Nat) : Int); decide⟩⟩
  | succ n ih =>
    intro hn
    obtain ⟨e, k⟩ := ih (by omega)
    rw [s_run_l, Nat.zero_add]
    have k2 : v_in (if I f_m_speaks n = 0 then 0 else q_pt I n) (-20000) 20000 := by
      split
      · exact ⟨by decide, by decide⟩
      · exact h n (by omega)
    have k3 := k.add k2 (by omega) (by omega)
    refine ⟨?_, k3.mono (by omega) (by omega)⟩
    show (v_S n (fun q => if I f_m_speaks q = 0 then 0 else q_pt I q) + (if I f_m_speaks n = 0 then 0 else q_pt I n)).toInt = (q_mps I n (s_run (q_mps I) 0 n 0)).toInt
    rw [show ∀ u, q_mps I n u = u + (if I f_m_speaks n ≠ 0 then (q_pt I n).toInt64 else 0) from fun u => rfl]
    have e64 : (if I f_m_speaks n ≠ 0 then (q_pt I n).toInt64 else 0).toInt = (if I f_m_speaks n = 0 then 0 else q_pt I n).toInt := by
      by_cases c : I f_m_speaks n = 0
      · rw [if_neg (fun z => z c), if_pos c]; rfl
      · rw [if_pos c, if_neg c, Int32.toInt_toInt64]
    unfold v_in at k k2
    rw [Int32.toInt_add, Int64.toInt_add, e64, ← e, v_bm (by omega) (by omega), v_bm64 (by omega) (by omega)]
theorem v_pts {p : e_Sp} {nk nr np n s m L : Nat} {t : Nat → Nat} {a b : e_I × e_Jt} (h : v_Sim p nk nr np n t s m L a b) : s_pts p a.1 nr = v_S np (fun q => if b.1 f_m_speaks q = 0 then 0 else q_pt b.1 q) := by
  have hS := h.1.1.1.1
  have e : s_pts p a.1 nr = s_run (fun q u => u + (if b.1 f_m_speaks q = 0 then 0 else q_pt b.1 q)) 0 np 0 := by
    unfold s_pts s_ptR
    refine v_flatP (P := fun _ => True) hS (gP := fun r n u => s_ptP p a.1 nr r n u) (G := fun q u => u + (if b.1 f_m_speaks q = 0 then 0 else q_pt b.1 q)) (fun r j u hr hj _ => ?_) (fun _ _ _ => True.intro) True.intro
    obtain ⟨lo, dv, c1, c2, hdv, a3, a4, a5, a6, a7, a8, -, -⟩ := hS.2.2 r hr
    have hr10 := hS.2.1.1
    have hpat : s_pat p a.1 nr (nI r) (nI (lo + j)) = some (p.2.2.2.2 r + j) := by
      unfold s_pat s_pof
      rw [if_pos ⟨nI_pos' (by omega), nI_lt hr (by omega)⟩, nI_clamp (by omega), a3, nI_add, if_pos ⟨nI_le (by omega) (by omega), nI_lt (by omega) (by omega)⟩, nI_sub (by omega), nI_clamp (by omega)]
      congr 2; omega
    obtain ⟨g1, g2⟩ := (v_patS hS).mp hpat
    unfold s_ptP
    rw [a3, nI_add, v_pit h g1, g2, (h.1.1.2.2.2.1 _ (hS.lt hr hj)).1.1]
  rw [e, v_sumI (g := fun q => if b.1 f_m_speaks q = 0 then 0 else q_pt b.1 q) (fun q u => rfl), Int32.zero_add]
/-- the mean's numerator -/
theorem v_meanE {p : e_Sp} {nk nr np n s m L : Nat} {t : Nat → Nat} {a b : e_I × e_Jt} (h : v_Sim p nk nr np n t s m L a b) (hr : v_Rg nr np b.1) (h0 : ¬ a.1 f_speakers 0 = 0) : FP.i2d (s_pts p a.1 nr) = FP.l2d (s_run (q_mps (q_bws nk np (q_an b.1))) 0 np 0) := by
  have hnp : 0 < np := by
    apply Decidable.byContradiction
    intro z
    obtain ⟨k, hk, e⟩ := v_spkN h
    exact h0 (by rw [e, show k = 0 by omega]; rfl)
  have h1 := v_Sim.thrown (x := 0) h
  rw [v_bwsid h1.1.2.2.1 hnp]
  have e1 := v_pts h
  obtain ⟨k1, -⟩ := v_sum2 (fun q hq => v_ptR h hr hq) h.1.1.1.1.2.1.2 np (Nat.le_refl _)
  rw [← e1] at k1
  have e2 : q_mps (q_an b.1) = q_mps b.1 := by
    have e' : s_eqN [f_m_thrown] b.1 (q_an b.1) := s_eqN.up (by decide)
    funext q u
    unfold q_mps q_pt q_no q_rk
    simp only [e' f_m_speaks (by decide), e' f_mr_lowest (by decide), e' f_m_rankOf (by decide), e' f_mr_base (by decide), e' f_m_temper (by decide), e' f_m_tuning (by decide), e' f_m_heat (by decide), e' f_mr_heat (by decide), e' f_m_winds (by decide), e' f_mr_division (by decide)]
  show UInt64.ofNat (FP.Core.fromInt FP.Core.b64 (s_pts p a.1 nr).toInt) = UInt64.ofNat (FP.Core.fromInt FP.Core.b64 (s_run (q_mps (q_an b.1)) 0 np 0).toInt)
  rw [e2, k1]
