/-! 99999999999999995: the law's loop (printed by wip/whole/mkloop.py) -/
theorem l_and63 (x : Int32) : ∃ j, j < 64 ∧ x &&& (Int8.ofInt 63).toInt32 = nI j := by
  refine ⟨x.toBitVec.toNat % 64, Nat.mod_lt _ (by decide), ?_⟩
  have h63 : (Int8.ofInt 63).toInt32 = 63 := by decide
  rw [h63]
  apply Int32.toBitVec_inj.mp
  apply BitVec.eq_of_toNat_eq
  rw [Int32.toBitVec_and, BitVec.toNat_and]
  have h1 : (63 : Int32).toBitVec.toNat = 2 ^ 6 - 1 := by decide
  rw [h1, Nat.and_two_pow_sub_one_eq_mod]
  show x.toBitVec.toNat % 2 ^ 6 = (x.toBitVec.toNat % 64) % 2 ^ 32
  have h2 : (2 : Nat) ^ 6 = 64 := rfl
  have h3 : (2 : Nat) ^ 32 = 4294967296 := rfl
  rw [h2, h3]
  omega
theorem l_len {L T : Nat} (hL : L ≤ 4096) (hT : T ≤ 4096) : nI L - (Int8.ofInt 8).toInt32 < nI T ↔ L < T + 8 := by
  have h8 : (Int8.ofInt 8).toInt32 = nI 8 := by decide
  rw [h8]
  have hL2 : (nI L).toInt = (L : Int) := nI_toInt (by omega)
  have hT2 : (nI T).toInt = (T : Int) := nI_toInt (by omega)
  have h82 : (nI 8).toInt = 8 := nI_toInt (by decide)
  rw [Int32.lt_iff_toInt_lt, Int32.toInt_sub, hL2, hT2, h82, Int.bmod_eq_of_le (by omega) (by omega)]
  omega
theorem h_L.next {T ax am ao ad : Nat} {S : e_SS} (h : h_L T ax am ao ad S) : h_L (T + 1) ax am ao ad S := by
  obtain ⟨⟨nk, nr, np, n, t, s, m, od, ob, hQ⟩, e1, e2, e3, e4, e5⟩ := h
  have q := h_qry (v := S.2.1 f_m_thrown 0) hQ
  rw [v_upid rfl] at q
  exact ⟨⟨nk, nr, np, n, t, s, m, od, ob, q⟩, e1, e2, e3, e4, e5⟩
set_option maxHeartbeats 1600000 in
theorem law_sw {X : e_XT} {d T i ax am ao ad j : Nat} {a6 a7 a8 : Option Value} {S : e_SS} {Q : e_Rt → e_SS → Prop} (hX : (X 8).1 = 0) (hXX : v_X X) (hi : i + 8 ≤ (X 0).1) (hL : (X 0).1 ≤ 4096) (hT : T < 512) (h : h_L T ax am ao ad S) (k : ∀ S2 a6 a7 a8, h_L (T + 1) ax am ao ad S2 → s_w X (d + 13) K_law 4021 (l_ll ax am ao ad i a6 a7 a8) [] S2 Q) (hj : j < 64) : s_w X (d + 13) K_law 45 (l_ll ax am ao ad i a6 a7 a8) [.int (nI j)] S Q := by
  match j, hj with
  | 0, _ => exact w_op (K := K_law) (pc' := 292) (ll' := l_ll ax am ao ad i a6 a7 a8) (st' := []) dL_law_45 rfl (law_c0 hX hXX hi hL hT h k)
  | 1, _ => exact w_op (K := K_law) (pc' := 424) (ll' := l_ll ax am ao ad i a6 a7 a8) (st' := []) dL_law_45 rfl (law_c1 hX hXX hi hL hT h k)
  | 2, _ => exact w_op (K := K_law) (pc' := 480) (ll' := l_ll ax am ao ad i a6 a7 a8) (st' := []) dL_law_45 rfl (law_c2 hX hXX hi hL hT h k)
  | 3, _ => exact w_op (K := K_law) (pc' := 584) (ll' := l_ll ax am ao ad i a6 a7 a8) (st' := []) dL_law_45 rfl (law_c3 hX hXX hi hL hT h k)
  | 4, _ => exact w_op (K := K_law) (pc' := 664) (ll' := l_ll ax am ao ad i a6 a7 a8) (st' := []) dL_law_45 rfl (law_c4 hX hXX hi hL hT h k)
  | 5, _ => exact w_op (K := K_law) (pc' := 758) (ll' := l_ll ax am ao ad i a6 a7 a8) (st' := []) dL_law_45 rfl (law_c5 hX hXX hi hL hT h k)
  | 6, _ => exact w_op (K := K_law) (pc' := 814) (ll' := l_ll ax am ao ad i a6 a7 a8) (st' := []) dL_law_45 rfl (law_c6 hX hXX hi hL hT h k)
  | 7, _ => exact w_op (K := K_law) (pc' := 905) (ll' := l_ll ax am ao ad i a6 a7 a8) (st' := []) dL_law_45 rfl (law_c7 hX hXX hi hL hT h k)
  | 8, _ => exact w_op (K := K_law) (pc' := 968) (ll' := l_ll ax am ao ad i a6 a7 a8) (st' := []) dL_law_45 rfl (law_c8 hX hXX hi hL hT h k)
  | 9, _ => exact w_op (K := K_law) (pc' := 1031) (ll' := l_ll ax am ao ad i a6 a7 a8) (st' := []) dL_law_45 rfl (law_c9 hX hXX hi hL hT h k)
  | 10, _ => exact w_op (K := K_law) (pc' := 1122) (ll' := l_ll ax am ao ad i a6 a7 a8) (st' := []) dL_law_45 rfl (law_c10 hX hXX hi hL hT h k)
  | 11, _ => exact w_op (K := K_law) (pc' := 1190) (ll' := l_ll ax am ao ad i a6 a7 a8) (st' := []) dL_law_45 rfl (law_c11 hX hXX hi hL hT h k)
  | 12, _ => exact w_op (K := K_law) (pc' := 1246) (ll' := l_ll ax am ao ad i a6 a7 a8) (st' := []) dL_law_45 rfl (law_c12 hX hXX hi hL hT h k)
  | 13, _ => exact w_op (K := K_law) (pc' := 1287) (ll' := l_ll ax am ao ad i a6 a7 a8) (st' := []) dL_law_45 rfl (law_c13 hX hXX hi hL hT h k)
  | 14, _ => exact w_op (K := K_law) (pc' := 1390) (ll' := l_ll ax am ao ad i a6 a7 a8) (st' := []) dL_law_45 rfl (law_c14 hX hXX hi hL hT h k)
  | 15, _ => exact w_op (K := K_law) (pc' := 1465) (ll' := l_ll ax am ao ad i a6 a7 a8) (st' := []) dL_law_45 rfl (law_c15 hX hXX hi hL hT h k)
  | 16, _ => exact w_op (K := K_law) (pc' := 1478) (ll' := l_ll ax am ao ad i a6 a7 a8) (st' := []) dL_law_45 rfl (law_c16 hX hXX hi hL hT h k)
  | 17, _ => exact w_op (K := K_law) (pc' := 1534) (ll' := l_ll ax am ao ad i a6 a7 a8) (st' := []) dL_law_45 rfl (law_c17 hX hXX hi hL hT h k)
  | 18, _ => exact w_op (K := K_law) (pc' := 1602) (ll' := l_ll ax am ao ad i a6 a7 a8) (st' := []) dL_law_45 rfl (law_c18 hX hXX hi hL hT h k)
  | 19, _ => exact w_op (K := K_law) (pc' := 1670) (ll' := l_ll ax am ao ad i a6 a7 a8) (st' := []) dL_law_45 rfl (law_c19 hX hXX hi hL hT h k)
  | 20, _ => exact w_op (K := K_law) (pc' := 1745) (ll' := l_ll ax am ao ad i a6 a7 a8) (st' := []) dL_law_45 rfl (law_c20 hX hXX hi hL hT h k)
  | 21, _ => exact w_op (K := K_law) (pc' := 1820) (ll' := l_ll ax am ao ad i a6 a7 a8) (st' := []) dL_law_45 rfl (law_c21 hX hXX hi hL hT h k)
  | 22, _ => exact w_op (K := K_law) (pc' := 1833) (ll' := l_ll ax am ao ad i a6 a7 a8) (st' := []) dL_law_45 rfl (law_c22 hX hXX hi hL hT h k)
  | 23, _ => exact w_op (K := K_law) (pc' := 1901) (ll' := l_ll ax am ao ad i a6 a7 a8) (st' := []) dL_law_45 rfl (law_c23 hX hXX hi hL hT h k)
  | 24, _ => exact w_op (K := K_law) (pc' := 1915) (ll' := l_ll ax am ao ad i a6 a7 a8) (st' := []) dL_law_45 rfl (law_c24 hX hXX hi hL hT h k)
  | 25, _ => exact w_op (K := K_law) (pc' := 1983) (ll' := l_ll ax am ao ad i a6 a7 a8) (st' := []) dL_law_45 rfl (law_c25 hX hXX hi hL hT h k)
  | 26, _ => exact w_op (K := K_law) (pc' := 2039) (ll' := l_ll ax am ao ad i a6 a7 a8) (st' := []) dL_law_45 rfl (law_c26 hX hXX hi hL hT h k)
  | 27, _ => exact w_op (K := K_law) (pc' := 2107) (ll' := l_ll ax am ao ad i a6 a7 a8) (st' := []) dL_law_45 rfl (law_c27 hX hXX hi hL hT h k)
  | 28, _ => exact w_op (K := K_law) (pc' := 2120) (ll' := l_ll ax am ao ad i a6 a7 a8) (st' := []) dL_law_45 rfl (law_c28 hX hXX hi hL hT h k)
  | 29, _ => exact w_op (K := K_law) (pc' := 2188) (ll' := l_ll ax am ao ad i a6 a7 a8) (st' := []) dL_law_45 rfl (law_c29 hX hXX hi hL hT h k)
  | 30, _ => exact w_op (K := K_law) (pc' := 2268) (ll' := l_ll ax am ao ad i a6 a7 a8) (st' := []) dL_law_45 rfl (law_c30 hX hXX hi hL hT h k)
  | 31, _ => exact w_op (K := K_law) (pc' := 2360) (ll' := l_ll ax am ao ad i a6 a7 a8) (st' := []) dL_law_45 rfl (law_c31 hX hXX hi hL hT h k)
  | 32, _ => exact w_op (K := K_law) (pc' := 2440) (ll' := l_ll ax am ao ad i a6 a7 a8) (st' := []) dL_law_45 rfl (law_c32 hX hXX hi hL hT h k)
  | 33, _ => exact w_op (K := K_law) (pc' := 2508) (ll' := l_ll ax am ao ad i a6 a7 a8) (st' := []) dL_law_45 rfl (law_c33 hX hXX hi hL hT h k)
  | 34, _ => exact w_op (K := K_law) (pc' := 2590) (ll' := l_ll ax am ao ad i a6 a7 a8) (st' := []) dL_law_45 rfl (law_c34 hX hXX hi hL hT h k)
  | 35, _ => exact w_op (K := K_law) (pc' := 2646) (ll' := l_ll ax am ao ad i a6 a7 a8) (st' := []) dL_law_45 rfl (law_c35 hX hXX hi hL hT h k)
  | 36, _ => exact w_op (K := K_law) (pc' := 2702) (ll' := l_ll ax am ao ad i a6 a7 a8) (st' := []) dL_law_45 rfl (law_c36 hX hXX hi hL hT h k)
  | 37, _ => exact w_op (K := K_law) (pc' := 2781) (ll' := l_ll ax am ao ad i a6 a7 a8) (st' := []) dL_law_45 rfl (law_c37 hX hXX hi hL hT h k)
  | 38, _ => exact w_op (K := K_law) (pc' := 2837) (ll' := l_ll ax am ao ad i a6 a7 a8) (st' := []) dL_law_45 rfl (law_c38 hX hXX hi hL hT h k)
  | 39, _ => exact w_op (K := K_law) (pc' := 2928) (ll' := l_ll ax am ao ad i a6 a7 a8) (st' := []) dL_law_45 rfl (law_c39 hX hXX hi hL hT h k)
  | 40, _ => exact w_op (K := K_law) (pc' := 2996) (ll' := l_ll ax am ao ad i a6 a7 a8) (st' := []) dL_law_45 rfl (law_c40 hX hXX hi hL hT h k)
  | 41, _ => exact w_op (K := K_law) (pc' := 3064) (ll' := l_ll ax am ao ad i a6 a7 a8) (st' := []) dL_law_45 rfl (law_c41 hX hXX hi hL hT h k)
  | 42, _ => exact w_op (K := K_law) (pc' := 3132) (ll' := l_ll ax am ao ad i a6 a7 a8) (st' := []) dL_law_45 rfl (law_c42 hX hXX hi hL hT h k)
  | 43, _ => exact w_op (K := K_law) (pc' := 3195) (ll' := l_ll ax am ao ad i a6 a7 a8) (st' := []) dL_law_45 rfl (law_c43 hX hXX hi hL hT h k)
  | 44, _ => exact w_op (K := K_law) (pc' := 3208) (ll' := l_ll ax am ao ad i a6 a7 a8) (st' := []) dL_law_45 rfl (law_c44 hX hXX hi hL hT h k)
  | 45, _ => exact w_op (K := K_law) (pc' := 3264) (ll' := l_ll ax am ao ad i a6 a7 a8) (st' := []) dL_law_45 rfl (law_c45 hX hXX hi hL hT h k)
  | 46, _ => exact w_op (K := K_law) (pc' := 3320) (ll' := l_ll ax am ao ad i a6 a7 a8) (st' := []) dL_law_45 rfl (law_c46 hX hXX hi hL hT h k)
  | 47, _ => exact w_op (K := K_law) (pc' := 3376) (ll' := l_ll ax am ao ad i a6 a7 a8) (st' := []) dL_law_45 rfl (law_c47 hX hXX hi hL hT h k)
  | 48, _ => exact w_op (K := K_law) (pc' := 3477) (ll' := l_ll ax am ao ad i a6 a7 a8) (st' := []) dL_law_45 rfl (law_c48 hX hXX hi hL hT h k)
  | 49, _ => exact w_op (K := K_law) (pc' := 3540) (ll' := l_ll ax am ao ad i a6 a7 a8) (st' := []) dL_law_45 rfl (law_c49 hX hXX hi hL hT h k)
  | 50, _ => exact w_op (K := K_law) (pc' := 3608) (ll' := l_ll ax am ao ad i a6 a7 a8) (st' := []) dL_law_45 rfl (law_c50 hX hXX hi hL hT h k)
  | 51, _ => exact w_op (K := K_law) (pc' := 3666) (ll' := l_ll ax am ao ad i a6 a7 a8) (st' := []) dL_law_45 rfl (law_c51 hX hXX hi hL hT h k)
  | 52, _ => exact w_op (K := K_law) (pc' := 3679) (ll' := l_ll ax am ao ad i a6 a7 a8) (st' := []) dL_law_45 rfl (law_c52 hX hXX hi hL hT h k)
  | 53, _ => exact w_op (K := K_law) (pc' := 3723) (ll' := l_ll ax am ao ad i a6 a7 a8) (st' := []) dL_law_45 rfl (law_c53 hX hXX hi hL hT h k)
  | 54, _ => exact w_op (K := K_law) (pc' := 3807) (ll' := l_ll ax am ao ad i a6 a7 a8) (st' := []) dL_law_45 rfl (law_c54 hX hXX hi hL hT h k)
  | 55, _ => exact w_op (K := K_law) (pc' := 3877) (ll' := l_ll ax am ao ad i a6 a7 a8) (st' := []) dL_law_45 rfl (law_c55 hX hXX hi hL hT h k)
  | 56, _ => exact w_op (K := K_law) (pc' := 3943) (ll' := l_ll ax am ao ad i a6 a7 a8) (st' := []) dL_law_45 rfl (law_c56 hX hXX hi hL hT h k)
  | 57, _ => exact w_op (K := K_law) (pc' := 4008) (ll' := l_ll ax am ao ad i a6 a7 a8) (st' := []) dL_law_45 rfl (law_c57 hX hXX hi hL hT h k)
  | 58, _ => exact w_op (K := K_law) (pc' := 4021) (ll' := l_ll ax am ao ad i a6 a7 a8) (st' := []) dL_law_45 rfl (k S _ _ _ h.next)
  | 59, _ => exact w_op (K := K_law) (pc' := 4021) (ll' := l_ll ax am ao ad i a6 a7 a8) (st' := []) dL_law_45 rfl (k S _ _ _ h.next)
  | 60, _ => exact w_op (K := K_law) (pc' := 4021) (ll' := l_ll ax am ao ad i a6 a7 a8) (st' := []) dL_law_45 rfl (k S _ _ _ h.next)
  | 61, _ => exact w_op (K := K_law) (pc' := 4021) (ll' := l_ll ax am ao ad i a6 a7 a8) (st' := []) dL_law_45 rfl (k S _ _ _ h.next)
  | 62, _ => exact w_op (K := K_law) (pc' := 4021) (ll' := l_ll ax am ao ad i a6 a7 a8) (st' := []) dL_law_45 rfl (k S _ _ _ h.next)
  | 63, _ => exact w_op (K := K_law) (pc' := 4021) (ll' := l_ll ax am ao ad i a6 a7 a8) (st' := []) dL_law_45 rfl (k S _ _ _ h.next)
  | j + 64, hj => exact absurd hj (by omega)
theorem law_loop {X : e_XT} {d ax am ao ad : Nat} {Q : e_Rt → e_SS → Prop} (hX : (X 8).1 = 0) (hXX : v_X X) (hL : (X 0).1 ≤ 4096) (hQ : ∀ S T, T ≤ 512 → h_L T ax am ao ad S → Q (.inl (some (.int 1))) S) : ∀ n T S a6 a7 a8, 8 * T ≤ (X 0).1 → (X 0).1 < 8 * T + 8 * n + 8 → h_L T ax am ao ad S → s_w X (d + 13) K_law 28 (l_ll ax am ao ad (8 * T) a6 a7 a8) [] S Q := by
  have hd : ∀ T S a6 a7 a8, 8 * T ≤ (X 0).1 → h_L T ax am ao ad S → (¬ (X 0).1 < 8 * T + 8 → s_w X (d + 13) K_law 38 (l_ll ax am ao ad (8 * T) a6 a7 a8) [] S Q) → s_w X (d + 13) K_law 28 (l_ll ax am ao ad (8 * T) a6 a7 a8) [] S Q := by
    intro T S a6 a7 a8 hT h k
    have hc := (h.f (by omega)).1.2.2
    refine w_op (K := K_law) (pc' := 30) (ll' := l_ll ax am ao ad (8 * T) a6 a7 a8) (st' := [.int (nI (8 * T))]) dL_law_28 rfl ?_
    refine w_op (K := K_law) (pc' := 31) (ll' := l_ll ax am ao ad (8 * T) a6 a7 a8) (st' := [.ref (e_xb + 0), .int (nI (8 * T))]) dL_law_30 rfl ?_
    refine w_xlen (K := K_law) (g := 0) dL_law_31 (by decide) hc ?_
    refine w_op (K := K_law) (pc' := 34) (ll' := l_ll ax am ao ad (8 * T) a6 a7 a8) (st' := [.int (Int8.ofInt 8).toInt32, .int (nI (X 0).1), .int (nI (8 * T))]) dL_law_32 rfl ?_
    refine w_op (K := K_law) (pc' := 35) (ll' := l_ll ax am ao ad (8 * T) a6 a7 a8) (st' := [.int (nI (X 0).1 - (Int8.ofInt 8).toInt32), .int (nI (8 * T))]) dL_law_34 rfl ?_
    refine w_icmpgt (K := K_law) (t := 4027) dL_law_35 (by decide) (fun _ => ?_) (fun hgt => k (fun z => hgt ((l_len hL (by omega)).mpr z)))
    refine w_op (K := K_law) (pc' := 4028) (ll' := l_ll ax am ao ad (8 * T) a6 a7 a8) (st' := [.int 1]) dL_law_4027 rfl ?_
    exact w_ireturn (K := K_law) dL_law_4028 (hQ S T (by omega) h)
  intro n
  induction n with
  | zero =>
    intro T S a6 a7 a8 hT hn h
    exact hd T S a6 a7 a8 hT h (fun z => absurd (by omega) z)
  | succ n ih =>
    intro T S a6 a7 a8 hT hn h
    refine hd T S a6 a7 a8 hT h (fun z => ?_)
    have hc := (h.f (by omega)).1.2.2
    refine l_arg0 (pc := 38) dL_law_38 dL_law_39 dL_law_41 (by omega) hL hc ?_
    refine w_op (K := K_law) (pc' := 44) (ll' := l_ll ax am ao ad (8 * T) a6 a7 a8) (st' := [.int (Int8.ofInt 63).toInt32, .int ((X 0).2 (8 * T))]) dL_law_42 rfl ?_
    refine w_op (K := K_law) (pc' := 45) (ll' := l_ll ax am ao ad (8 * T) a6 a7 a8) (st' := [.int ((X 0).2 (8 * T) &&& (Int8.ofInt 63).toInt32)]) dL_law_44 rfl ?_
    obtain ⟨j, hj, e⟩ := l_and63 ((X 0).2 (8 * T))
    rw [e]
    refine law_sw (T := T) hX hXX (by omega) hL (by omega) h (fun S2 a6 a7 a8 h2 => ?_) hj
    have e8 : nI (8 * T) + Int32.ofInt 8 = nI (8 * (T + 1)) := by
      rw [show Int32.ofInt 8 = nI 8 by decide, nI_add]
      rfl
    have eo : e_op 9 (.iinc 5 8) 3 4021 (l_ll ax am ao ad (8 * T) a6 a7 a8) [] = some (4024, l_ll ax am ao ad (8 * (T + 1)) a6 a7 a8, []) := by
      show (some (4024, [some (.ref (e_xb + 0)), some (.ref ax), some (.ref am), some (.ref ao), some (.ref ad), some (.int (nI (8 * T) + Int32.ofInt 8)), a6, a7, a8], []) : e_R) = _
      rw [e8]
    refine w_op (K := K_law) dL_law_4021 eo ?_
    exact w_goto (K := K_law) (t := 28) dL_law_4024 (by decide) (ih (T + 1) S2 a6 a7 a8 (by omega) (by omega) h2)
