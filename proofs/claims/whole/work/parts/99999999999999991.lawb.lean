/-! 99999999999999991: the law's own steps -/
abbrev K_law : e_KT := (21, false, cL_law, 9, [])
abbrev l_ll (ax am ao ad i : Nat) (a b c : Option Value) : e_LL := [some (.ref (e_xb + 0)), some (.ref ax), some (.ref am), some (.ref ao), some (.ref ad), some (.int (nI i)), a, b, c]
def l_b (z : Int32) : Int32 := if z = 0 then 0 else 1
def l_ch (x : Int32) : Int32 := (x.toUInt32 % 65536).toInt32
theorem l_b01 {z : Int32} : l_b z = 0 ∨ l_b z = 1 := by
  unfold l_b
  by_cases h : z = 0
  · exact .inl (if_pos h)
  · exact .inr (if_neg h)
theorem l_chn {x : Int32} : vp_nar .char (l_ch x) = l_ch x := by
  have e : ∀ u : UInt32, (u % 65536).toUInt16.toUInt32 = u % 65536 := fun u => by
    apply UInt32.toNat_inj.mp
    rw [UInt16.toNat_toUInt32, UInt32.toNat_toUInt16, UInt32.toNat_mod]
    show u.toNat % 65536 % 65536 = u.toNat % 65536
    exact Nat.mod_mod _ _
  unfold l_ch
  rw [vp_nar_char, UInt32.toUInt32_toInt32, e]
theorem l_ordS (d : FP.Core.Datum) (h : d ≠ .nan) : FP.Core.order d d = some .eq := by
  have hc : ∀ a : Int, compare a a = .eq := fun a => by simp [compare, compareOfLessAndEq]
  cases d with
  | nan => exact absurd rfl h
  | inf s => show some (compare _ _) = _; rw [hc]
  | fin s c q => show some (compare _ _) = _; rw [hc]
theorem l_dn {x : UInt64} (h : e_n64 x = true) : FP.Core.decode FP.Core.b64 x.toNat ≠ .nan := by
  intro hn
  unfold e_n64 at h
  have h1 : vf_n64 x := @of_decide_eq_true _ (_) h
  unfold vf_n64 at h1
  rw [UInt64.le_iff_toNat_le, UInt64.toNat_and, show (9223372036854775807 : UInt64).toNat = 2 ^ 63 - 1 from rfl, Nat.and_two_pow_sub_one_eq_mod] at h1
  have h2 : x.toNat % 9223372036854775808 ≤ 9218868437227405312 := h1
  have hT : FP.Core.b64.tails = 4503599627370496 := by decide
  have hE : FP.Core.b64.exps = 2048 := by decide
  unfold FP.Core.decode FP.Core.fieldE FP.Core.fieldT at hn
  rw [hT, hE] at hn
  by_cases c : x.toNat / 4503599627370496 % 2048 = 2048 - 1
  · rw [if_pos c] at hn
    by_cases c2 : x.toNat % 4503599627370496 = 0
    · rw [if_pos c2] at hn; cases hn
    · omega
  · rw [if_neg c] at hn
    split at hn <;> cases hn
theorem l_dcmp {x : UInt64} (h : e_n64 x = true) : Op.cmpValue (FP.dcmp x x) .l = 0 := by
  have e : FP.dcmp x x = some .eq := l_ordS _ (l_dn h)
  rw [e]
  rfl
theorem h_L.f {T ax am ao ad : Nat} {S : e_SS} (hT : T ≤ 512) (h : h_L T ax am ao ad S) : l_f am S ∧ (S.1.1 T_HALL 0 = ax ∧ S.1.2.1 T_HALL 0 = true) ∧ s_ok S.1 := by
  obtain ⟨⟨nk, nr, np, n, t, s, m, od, ob, hQ⟩, ex, em, -⟩ := h
  have hN := hQ.nums hT
  have hp : s_ok S.1 := hQ.2.1.1.1
  have hx : e_xb = 4294967296 := rfl
  exact ⟨⟨em, hp.1 _ rfl, by omega⟩, ⟨ex, hp.1 _ rfl⟩, hp⟩
section l_w
variable {X : e_XT} {d pc i n ax am ao ad : Nat} {a6 a7 a8 : Option Value} {st : List Value} {S : e_SS} {Q : e_Rt → e_SS → Prop}
theorem l_arg0 (h0 : decode cL_law pc = .ok (.aload_n 0, 1)) (h1 : decode cL_law (pc + 1) = .ok (.iload 5, 2)) (h4 : decode cL_law (pc + 3) = .ok (.iaload, 1)) (hn : i < (X 0).1) (hL : (X 0).1 ≤ 4096) (hc : S.2.2.2.1.1 < e_xb) (k : s_w X d K_law (pc + 4) (l_ll ax am ao ad i a6 a7 a8) (.int ((X 0).2 i) :: st) S Q) : s_w X d K_law pc (l_ll ax am ao ad i a6 a7 a8) st S Q := by
  refine w_op (K := K_law) (pc' := pc + 1) (ll' := l_ll ax am ao ad i a6 a7 a8) (st' := .ref (e_xb + 0) :: st) h0 rfl ?_
  refine w_op (K := K_law) (pc' := pc + 3) (ll' := l_ll ax am ao ad i a6 a7 a8) (st' := .int (nI i) :: .ref (e_xb + 0) :: st) h1 rfl ?_
  exact w_xald (K := K_law) (g := 0) h4 (by decide) (s_ix.nI hn (by omega)) hc k
theorem l_arg1 {z : Int} (h0 : decode cL_law pc = .ok (.aload_n 0, 1)) (h1 : decode cL_law (pc + 1) = .ok (.iload 5, 2)) (h2 : decode cL_law (pc + 3) = .ok (.iconst z, 1)) (h3 : decode cL_law (pc + 4) = .ok (.iadd, 1)) (h4 : decode cL_law (pc + 5) = .ok (.iaload, 1)) (hz : Int32.ofInt z = nI n) (hn : i + n < (X 0).1) (hL : (X 0).1 ≤ 4096) (hc : S.2.2.2.1.1 < e_xb) (k : s_w X d K_law (pc + 6) (l_ll ax am ao ad i a6 a7 a8) (.int ((X 0).2 (i + n)) :: st) S Q) : s_w X d K_law pc (l_ll ax am ao ad i a6 a7 a8) st S Q := by
  refine w_op (K := K_law) (pc' := pc + 1) (ll' := l_ll ax am ao ad i a6 a7 a8) (st' := .ref (e_xb + 0) :: st) h0 rfl ?_
  refine w_op (K := K_law) (pc' := pc + 3) (ll' := l_ll ax am ao ad i a6 a7 a8) (st' := .int (nI i) :: .ref (e_xb + 0) :: st) h1 rfl ?_
  refine w_op (K := K_law) (pc' := pc + 4) (ll' := l_ll ax am ao ad i a6 a7 a8) (st' := .int (Int32.ofInt z) :: .int (nI i) :: .ref (e_xb + 0) :: st) h2 rfl ?_
  refine w_op (K := K_law) (pc' := pc + 5) (ll' := l_ll ax am ao ad i a6 a7 a8) (st' := .int (nI i + Int32.ofInt z) :: .ref (e_xb + 0) :: st) h3 rfl ?_
  rw [hz, nI_add]
  exact w_xald (K := K_law) (g := 0) h4 (by decide) (s_ix.nI hn (by omega)) hc k
theorem l_arg2 {z : Int} (h0 : decode cL_law pc = .ok (.aload_n 0, 1)) (h1 : decode cL_law (pc + 1) = .ok (.iload 5, 2)) (h2 : decode cL_law (pc + 3) = .ok (.bipush z, 2)) (h3 : decode cL_law (pc + 5) = .ok (.iadd, 1)) (h4 : decode cL_law (pc + 6) = .ok (.iaload, 1)) (hz : (Int8.ofInt z).toInt32 = nI n) (hn : i + n < (X 0).1) (hL : (X 0).1 ≤ 4096) (hc : S.2.2.2.1.1 < e_xb) (k : s_w X d K_law (pc + 7) (l_ll ax am ao ad i a6 a7 a8) (.int ((X 0).2 (i + n)) :: st) S Q) : s_w X d K_law pc (l_ll ax am ao ad i a6 a7 a8) st S Q := by
  refine w_op (K := K_law) (pc' := pc + 1) (ll' := l_ll ax am ao ad i a6 a7 a8) (st' := .ref (e_xb + 0) :: st) h0 rfl ?_
  refine w_op (K := K_law) (pc' := pc + 3) (ll' := l_ll ax am ao ad i a6 a7 a8) (st' := .int (nI i) :: .ref (e_xb + 0) :: st) h1 rfl ?_
  refine w_op (K := K_law) (pc' := pc + 5) (ll' := l_ll ax am ao ad i a6 a7 a8) (st' := .int (Int8.ofInt z).toInt32 :: .int (nI i) :: .ref (e_xb + 0) :: st) h2 rfl ?_
  refine w_op (K := K_law) (pc' := pc + 6) (ll' := l_ll ax am ao ad i a6 a7 a8) (st' := .int (nI i + (Int8.ofInt z).toInt32) :: .ref (e_xb + 0) :: st) h3 rfl ?_
  rw [hz, nI_add]
  exact w_xald (K := K_law) (g := 0) h4 (by decide) (s_ix.nI hn (by omega)) hc k
theorem l_bool {z : Int32} {ll : e_LL} (h0 : decode cL_law pc = .ok (.ifCond .eq 7, 3)) (h3 : decode cL_law (pc + 3) = .ok (.iconst 1, 1)) (h4 : decode cL_law (pc + 4) = .ok (.goto 4, 3)) (h7 : decode cL_law (pc + 7) = .ok (.iconst 0, 1)) (k : s_w X d K_law (pc + 8) ll (.int (l_b z) :: st) S Q) : s_w X d K_law pc ll (.int z :: st) S Q := by
  refine w_ifeq (K := K_law) (t := pc + 7) h0 (by omega) (fun hz => ?_) (fun hz => ?_)
  · have e : l_b z = 0 := if_pos hz
    rw [e] at k
    exact w_op (K := K_law) (pc' := pc + 8) (ll' := ll) (st' := .int 0 :: st) h7 rfl k
  · have e : l_b z = 1 := if_neg hz
    rw [e] at k
    refine w_op (K := K_law) (pc' := pc + 4) (ll' := ll) (st' := .int 1 :: st) h3 rfl ?_
    exact w_goto (K := K_law) (t := pc + 8) h4 (by omega) k
theorem l_i2c {z : Int32} {ll : e_LL} (h0 : decode cL_law pc = .ok (.i2c, 1)) (k : s_w X d K_law (pc + 1) ll (.int (l_ch z) :: st) S Q) : s_w X d K_law pc ll (.int z :: st) S Q := w_op (K := K_law) (pc' := pc + 1) (ll' := ll) (st' := .int (l_ch z) :: st) h0 rfl k
theorem l_callM {ix mi pl : Nat} {row : e_MT} {As rest : List Value} {ll : e_LL} (hd : decode cL_law pc = .ok (.invokevirtual ix, 3)) (hcl : e_cl2 21 ix = some (ix, mi, pl, 0)) (hrow : e_M[mi]? = some row) (hmi : mi < 1000) (hst : row.2.1.2 = false) (hn : As.length = row.2.1.1) (hni : row.1.1.name ≠ "<init>") (h20 : row.1.2 = 20) (hcat : (rest.map fun v => v.category).sum ≤ 8) (hf : l_f am S) (hc : s_c X d mi (.ref am :: As) S (fun r S' => s_aft X (d + 1) K_law pc ll rest Q r S')) : s_w X (d + 1) K_law pc ll (As.reverse ++ .ref am :: rest) S Q := by
  obtain ⟨e, hv, -⟩ := hf
  subst e
  exact w_callV (K := K_law) (t := T_MODEL) (j := 0) hd hcl hrow hmi hst hn hni (by rw [h20]; decide) hcat (by rw [h20]; rfl) hv hc (fun _ _ h => h)
theorem l_callH {ix mi pl : Nat} {row : e_MT} {As rest : List Value} {ll : e_LL} (hd : decode cL_law pc = .ok (.invokevirtual ix, 3)) (hcl : e_cl2 21 ix = some (ix, mi, pl, 0)) (hrow : e_M[mi]? = some row) (hmi : mi < 1000) (hst : row.2.1.2 = false) (hn : As.length = row.2.1.1) (hni : row.1.1.name ≠ "<init>") (h15 : row.1.2 = 15) (hcat : (rest.map fun v => v.category).sum ≤ 8) (hf : S.1.1 T_HALL 0 = ax ∧ S.1.2.1 T_HALL 0 = true) (hc : s_c X d mi (.ref ax :: As) S (fun r S' => s_aft X (d + 1) K_law pc ll rest Q r S')) : s_w X (d + 1) K_law pc ll (As.reverse ++ .ref ax :: rest) S Q := by
  obtain ⟨e, hv⟩ := hf
  subst e
  exact w_callV (K := K_law) (t := T_HALL) (j := 0) hd hcl hrow hmi hst hn hni (by rw [h15]; decide) hcat (by rw [h15]; rfl) hv hc (fun _ _ h => h)
theorem l_is6 {x : Int32} (h : decode cL_law pc = .ok (.istore 6, 2)) (k : s_w X d K_law (pc + 2) (l_ll ax am ao ad i (some (.int x)) a7 a8) st S Q) : s_w X d K_law pc (l_ll ax am ao ad i a6 a7 a8) (.int x :: st) S Q := w_op (K := K_law) (pc' := pc + 2) (ll' := l_ll ax am ao ad i (some (.int x)) a7 a8) (st' := st) h rfl k
/-- the reference says what it threw -/
theorem l_thr {k' : Int32} {T : Nat} (d2 : decode cL_law pc = .ok (.aload_n 2, 1)) (d3 : decode cL_law (pc + 1) = .ok (.invokevirtual 201, 3)) (d6 : decode cL_law (pc + 4) = .ok (.iload 6, 2)) (d8 : decode cL_law (pc + 6) = .ok (.if_icmp .eq 5, 3)) (hT : T ≤ 512) (h2 : h_L T ax am ao ad S) (ht : S.2.1 f_m_thrown 0 = k') (k : s_w X (d + 1) K_law (pc + 11) (l_ll ax am ao ad i (some (.int k')) a7 a8) [] S Q) : s_w X (d + 1) K_law pc (l_ll ax am ao ad i (some (.int k')) a7 a8) [] S Q := by
  obtain ⟨hf, -, hok⟩ := h2.f hT
  refine w_op (K := K_law) (pc' := pc + 1) (ll' := l_ll ax am ao ad i (some (.int k')) a7 a8) (st' := [.ref am]) d2 rfl ?_
  obtain ⟨p, I, J, c, w⟩ := S
  have hcT : ∀ Q3 : e_Rt → e_SS → Prop, Q3 (.inl (some (.int (I f_m_thrown 0)))) (p, I, J, c, w) → s_c X d 213 [.ref am] (p, I, J, c, w) Q3 := fun Q3 h3 => by
    have := c_X16_thrown (X := X) (d := d) (Q := Q3) (p := p) (I := I) (J := J) (c := c) (w := w) hok h3
    rw [show p.1 T_MODEL 0 = am from hf.1] at this
    exact this
  refine l_callM (As := []) (rest := []) d3 rfl rM_X16_thrown (by decide) rfl rfl (by decide) rfl (Nat.le_of_ble_eq_true rfl) hf (hcT _ ?_)
  show s_w X (d + 1) K_law (pc + 4) (l_ll ax am ao ad i (some (.int k')) a7 a8) [.int (I f_m_thrown 0)] (p, I, J, c, w) Q
  rw [show I f_m_thrown 0 = k' from ht]
  refine w_op (K := K_law) (pc' := pc + 6) (ll' := l_ll ax am ao ad i (some (.int k')) a7 a8) (st' := [.int k', .int k']) d6 rfl ?_
  exact w_icmpeq (K := K_law) (t := pc + 11) d8 (by omega) (fun _ => k) (fun z => absurd rfl z)
/-- behind a call on both sides that answers an int -/
theorem law_tI {k' b : Int32} {g : Int} {T : Nat} (d0 : decode cL_law pc = .ok (.istore 7, 2)) (d2 : decode cL_law (pc + 2) = .ok (.aload_n 2, 1)) (d3 : decode cL_law (pc + 3) = .ok (.invokevirtual 201, 3)) (d6 : decode cL_law (pc + 6) = .ok (.iload 6, 2)) (d8 : decode cL_law (pc + 8) = .ok (.if_icmp .eq 5, 3)) (d13 : decode cL_law (pc + 13) = .ok (.iload 6, 2)) (d15 : decode cL_law (pc + 15) = .ok (.ifCond .ne 15, 3)) (d18 : decode cL_law (pc + 18) = .ok (.aload_n 3, 1)) (d19 : decode cL_law (pc + 19) = .ok (.iconst 0, 1)) (d20 : decode cL_law (pc + 20) = .ok (.laload, 1)) (d21 : decode cL_law (pc + 21) = .ok (.iload 7, 2)) (d23 : decode cL_law (pc + 23) = .ok (.i2l, 1)) (d24 : decode cL_law (pc + 24) = .ok (.lcmp, 1)) (d25 : decode cL_law (pc + 25) = .ok (.ifCond .eq 5, 3)) (d30 : decode cL_law (pc + 30) = .ok (.goto g, 3)) (hg : ((pc + 30 : Nat) : Int) + g = 4021) (hT : T ≤ 512) (h2 : h_L T ax am ao ad S) (ht : S.2.1 f_m_thrown 0 = k') (hb : k' = 0 → ∃ f, S.2.2.2.2 ao = some (103, 1, f) ∧ f 0 = .long b.toInt64) (k : ∀ a6 a7 a8, s_w X (d + 1) K_law 4021 (l_ll ax am ao ad i a6 a7 a8) [] S Q) : s_w X (d + 1) K_law pc (l_ll ax am ao ad i (some (.int k')) a7 a8) [.int b] S Q := by
  refine w_op (K := K_law) (pc' := pc + 2) (ll' := l_ll ax am ao ad i (some (.int k')) (some (.int b)) a8) (st' := []) d0 rfl ?_
  refine l_thr (pc := pc + 2) d2 d3 d6 d8 hT h2 ht ?_
  refine w_op (K := K_law) (pc' := pc + 15) (ll' := l_ll ax am ao ad i (some (.int k')) (some (.int b)) a8) (st' := [.int k']) d13 rfl ?_
  refine w_ifne (K := K_law) (t := pc + 30) d15 (by omega) (fun _ => ?_) (fun hk => ?_)
  · exact w_goto (K := K_law) (t := 4021) d30 hg (k _ _ _)
  · obtain ⟨f, hf9, hb9⟩ := hb hk
    refine w_op (K := K_law) (pc' := pc + 19) (ll' := l_ll ax am ao ad i (some (.int k')) (some (.int b)) a8) (st' := [.ref ao]) d18 rfl ?_
    refine w_op (K := K_law) (pc' := pc + 20) (ll' := l_ll ax am ao ad i (some (.int k')) (some (.int b)) a8) (st' := [.int 0, .ref ao]) d19 rfl ?_
    refine w_laldR (K := K_law) (n := 0) d20 hf9 ⟨by decide, rfl, by omega⟩ ?_
    rw [hb9]
    refine w_op (K := K_law) (pc' := pc + 23) (ll' := l_ll ax am ao ad i (some (.int k')) (some (.int b)) a8) (st' := [.int b, .long b.toInt64]) d21 rfl ?_
    refine w_op (K := K_law) (pc' := pc + 24) (ll' := l_ll ax am ao ad i (some (.int k')) (some (.int b)) a8) (st' := [.long b.toInt64, .long b.toInt64]) d23 rfl ?_
    refine w_op (K := K_law) (pc' := pc + 25) (ll' := l_ll ax am ao ad i (some (.int k')) (some (.int b)) a8) (st' := [.int (lg_cmp b.toInt64 b.toInt64)]) d24 rfl ?_
    refine w_ifeq (K := K_law) (t := pc + 30) d25 (by omega) (fun _ => ?_) (fun z => absurd ((v_cmp0 _ _).mpr rfl) z)
    exact w_goto (K := K_law) (t := 4021) d30 hg (k _ _ _)
/-- .. a yes or no -/
theorem law_tB {k' b : Int32} {g : Int} {T : Nat} (d0 : decode cL_law pc = .ok (.istore 7, 2)) (d2 : decode cL_law (pc + 2) = .ok (.aload_n 2, 1)) (d3 : decode cL_law (pc + 3) = .ok (.invokevirtual 201, 3)) (d6 : decode cL_law (pc + 6) = .ok (.iload 6, 2)) (d8 : decode cL_law (pc + 8) = .ok (.if_icmp .eq 5, 3)) (d13 : decode cL_law (pc + 13) = .ok (.iload 6, 2)) (d15 : decode cL_law (pc + 15) = .ok (.ifCond .ne 22, 3)) (d18 : decode cL_law (pc + 18) = .ok (.aload_n 3, 1)) (d19 : decode cL_law (pc + 19) = .ok (.iconst 0, 1)) (d20 : decode cL_law (pc + 20) = .ok (.laload, 1)) (d21 : decode cL_law (pc + 21) = .ok (.iload 7, 2)) (d23 : decode cL_law (pc + 23) = .ok (.ifCond .eq 7, 3)) (d26 : decode cL_law (pc + 26) = .ok (.lconst 1, 1)) (d27 : decode cL_law (pc + 27) = .ok (.goto 4, 3)) (d30 : decode cL_law (pc + 30) = .ok (.lconst 0, 1)) (d31 : decode cL_law (pc + 31) = .ok (.lcmp, 1)) (d32 : decode cL_law (pc + 32) = .ok (.ifCond .eq 5, 3)) (d37 : decode cL_law (pc + 37) = .ok (.goto g, 3)) (hg : ((pc + 37 : Nat) : Int) + g = 4021) (hT : T ≤ 512) (h2 : h_L T ax am ao ad S) (ht : S.2.1 f_m_thrown 0 = k') (hb : k' = 0 → ∃ f, S.2.2.2.2 ao = some (103, 1, f) ∧ f 0 = .long (if b = 0 then 0 else 1)) (k : ∀ a6 a7 a8, s_w X (d + 1) K_law 4021 (l_ll ax am ao ad i a6 a7 a8) [] S Q) : s_w X (d + 1) K_law pc (l_ll ax am ao ad i (some (.int k')) a7 a8) [.int b] S Q := by
  refine w_op (K := K_law) (pc' := pc + 2) (ll' := l_ll ax am ao ad i (some (.int k')) (some (.int b)) a8) (st' := []) d0 rfl ?_
  refine l_thr (pc := pc + 2) d2 d3 d6 d8 hT h2 ht ?_
  refine w_op (K := K_law) (pc' := pc + 15) (ll' := l_ll ax am ao ad i (some (.int k')) (some (.int b)) a8) (st' := [.int k']) d13 rfl ?_
  refine w_ifne (K := K_law) (t := pc + 37) d15 (by omega) (fun _ => ?_) (fun hk => ?_)
  · exact w_goto (K := K_law) (t := 4021) d37 hg (k _ _ _)
  · obtain ⟨f, hf9, hb9⟩ := hb hk
    refine w_op (K := K_law) (pc' := pc + 19) (ll' := l_ll ax am ao ad i (some (.int k')) (some (.int b)) a8) (st' := [.ref ao]) d18 rfl ?_
    refine w_op (K := K_law) (pc' := pc + 20) (ll' := l_ll ax am ao ad i (some (.int k')) (some (.int b)) a8) (st' := [.int 0, .ref ao]) d19 rfl ?_
    refine w_laldR (K := K_law) (n := 0) d20 hf9 ⟨by decide, rfl, by omega⟩ ?_
    rw [hb9]
    have hend : ∀ u v : Int64, u = v → s_w X (d + 1) K_law (pc + 31) (l_ll ax am ao ad i (some (.int k')) (some (.int b)) a8) [.long v, .long u] S Q := fun u v huv => by
      refine w_op (K := K_law) (pc' := pc + 32) (ll' := l_ll ax am ao ad i (some (.int k')) (some (.int b)) a8) (st' := [.int (lg_cmp u v)]) d31 rfl ?_
      refine w_ifeq (K := K_law) (t := pc + 37) d32 (by omega) (fun _ => ?_) (fun z => absurd ((v_cmp0 _ _).mpr huv) z)
      exact w_goto (K := K_law) (t := 4021) d37 hg (k _ _ _)
    refine w_op (K := K_law) (pc' := pc + 23) (ll' := l_ll ax am ao ad i (some (.int k')) (some (.int b)) a8) (st' := [.int b, .long (if b = 0 then 0 else 1)]) d21 rfl ?_
    refine w_ifeq (K := K_law) (t := pc + 30) d23 (by omega) (fun hz => ?_) (fun hz => ?_)
    · rw [if_pos hz]
      exact w_op (K := K_law) (pc' := pc + 31) (ll' := l_ll ax am ao ad i (some (.int k')) (some (.int b)) a8) (st' := [.long 0, .long 0]) d30 rfl (hend 0 0 rfl)
    · rw [if_neg hz]
      refine w_op (K := K_law) (pc' := pc + 27) (ll' := l_ll ax am ao ad i (some (.int k')) (some (.int b)) a8) (st' := [.long 1, .long 1]) d26 rfl ?_
      exact w_goto (K := K_law) (t := pc + 31) d27 (by omega) (hend 1 1 rfl)
/-- .. a float -/
theorem law_tF {k' : Int32} {b : UInt32} {g : Int} {T : Nat} (d0 : decode cL_law pc = .ok (.fstore 7, 2)) (d2 : decode cL_law (pc + 2) = .ok (.aload_n 2, 1)) (d3 : decode cL_law (pc + 3) = .ok (.invokevirtual 201, 3)) (d6 : decode cL_law (pc + 6) = .ok (.iload 6, 2)) (d8 : decode cL_law (pc + 8) = .ok (.if_icmp .eq 5, 3)) (d13 : decode cL_law (pc + 13) = .ok (.iload 6, 2)) (d15 : decode cL_law (pc + 15) = .ok (.ifCond .ne 36, 3)) (d18 : decode cL_law (pc + 18) = .ok (.aload 4, 2)) (d20 : decode cL_law (pc + 20) = .ok (.iconst 0, 1)) (d21 : decode cL_law (pc + 21) = .ok (.daload, 1)) (d22 : decode cL_law (pc + 22) = .ok (.fload 7, 2)) (d24 : decode cL_law (pc + 24) = .ok (.f2d, 1)) (d25 : decode cL_law (pc + 25) = .ok (.dcmp .l, 1)) (d26 : decode cL_law (pc + 26) = .ok (.ifCond .eq 25, 3)) (d51 : decode cL_law (pc + 51) = .ok (.goto g, 3)) (hg : ((pc + 51 : Nat) : Int) + g = 4021) (hT : T ≤ 512) (h2 : h_L T ax am ao ad S) (ht : S.2.1 f_m_thrown 0 = k') (hb : k' = 0 → e_n64 (FP.f2d b) = true ∧ ∃ f, S.2.2.2.2 ad = some (104, 1, f) ∧ f 0 = .double (FP.f2d b)) (k : ∀ a6 a7 a8, s_w X (d + 1) K_law 4021 (l_ll ax am ao ad i a6 a7 a8) [] S Q) : s_w X (d + 1) K_law pc (l_ll ax am ao ad i (some (.int k')) a7 a8) [.float b] S Q := by
  refine w_op (K := K_law) (pc' := pc + 2) (ll' := l_ll ax am ao ad i (some (.int k')) (some (.float b)) a8) (st' := []) d0 rfl ?_
  refine l_thr (pc := pc + 2) d2 d3 d6 d8 hT h2 ht ?_
  refine w_op (K := K_law) (pc' := pc + 15) (ll' := l_ll ax am ao ad i (some (.int k')) (some (.float b)) a8) (st' := [.int k']) d13 rfl ?_
  refine w_ifne (K := K_law) (t := pc + 51) d15 (by omega) (fun _ => ?_) (fun hk => ?_)
  · exact w_goto (K := K_law) (t := 4021) d51 hg (k _ _ _)
  · obtain ⟨hn9, f, hf9, hb9⟩ := hb hk
    refine w_op (K := K_law) (pc' := pc + 20) (ll' := l_ll ax am ao ad i (some (.int k')) (some (.float b)) a8) (st' := [.ref ad]) d18 rfl ?_
    refine w_op (K := K_law) (pc' := pc + 21) (ll' := l_ll ax am ao ad i (some (.int k')) (some (.float b)) a8) (st' := [.int 0, .ref ad]) d20 rfl ?_
    refine w_daldR (K := K_law) (n := 0) d21 hf9 ⟨by decide, rfl, by omega⟩ ?_
    rw [hb9]
    refine w_op (K := K_law) (pc' := pc + 24) (ll' := l_ll ax am ao ad i (some (.int k')) (some (.float b)) a8) (st' := [.float b, .double (FP.f2d b)]) d22 rfl ?_
    have ed : ∀ (ll : e_LL) (st : List Value), e_op 9 .f2d 1 (pc + 24) ll (.float b :: st) = some (pc + 25, ll, .double (FP.f2d b) :: st) := fun ll st => by
      have e1 : e_op 9 .f2d 1 (pc + 24) ll (.float b :: st) = (match (if e_n64 (FP.f2d b) then some (pc + 24 + 1, ll, Value.double (FP.f2d b) :: st) else none : e_R) with | some r => some r | none => e_opG .f2d 1 (pc + 24) ll (.float b :: st)) := rfl
      rw [e1, if_pos hn9]
    refine w_op (K := K_law) (pc' := pc + 25) (ll' := l_ll ax am ao ad i (some (.int k')) (some (.float b)) a8) (st' := [.double (FP.f2d b), .double (FP.f2d b)]) d24 (ed _ _) ?_
    refine w_op (K := K_law) (pc' := pc + 26) (ll' := l_ll ax am ao ad i (some (.int k')) (some (.float b)) a8) (st' := [.int (Op.cmpValue (FP.dcmp (FP.f2d b) (FP.f2d b)) .l)]) d25 rfl ?_
    refine w_ifeq (K := K_law) (t := pc + 51) d26 (by omega) (fun _ => ?_) (fun z => absurd (l_dcmp hn9) z)
    exact w_goto (K := K_law) (t := 4021) d51 hg (k _ _ _)
/-- .. a double -/
theorem law_tD {k' : Int32} {b : UInt64} {g : Int} {T : Nat} (d0 : decode cL_law pc = .ok (.dstore 7, 2)) (d2 : decode cL_law (pc + 2) = .ok (.aload_n 2, 1)) (d3 : decode cL_law (pc + 3) = .ok (.invokevirtual 201, 3)) (d6 : decode cL_law (pc + 6) = .ok (.iload 6, 2)) (d8 : decode cL_law (pc + 8) = .ok (.if_icmp .eq 5, 3)) (d13 : decode cL_law (pc + 13) = .ok (.iload 6, 2)) (d15 : decode cL_law (pc + 15) = .ok (.ifCond .ne 35, 3)) (d18 : decode cL_law (pc + 18) = .ok (.aload 4, 2)) (d20 : decode cL_law (pc + 20) = .ok (.iconst 0, 1)) (d21 : decode cL_law (pc + 21) = .ok (.daload, 1)) (d22 : decode cL_law (pc + 22) = .ok (.dload 7, 2)) (d24 : decode cL_law (pc + 24) = .ok (.dcmp .l, 1)) (d25 : decode cL_law (pc + 25) = .ok (.ifCond .eq 25, 3)) (d50 : decode cL_law (pc + 50) = .ok (.goto g, 3)) (hg : ((pc + 50 : Nat) : Int) + g = 4021) (hT : T ≤ 512) (h2 : h_L T ax am ao ad S) (ht : S.2.1 f_m_thrown 0 = k') (hb : k' = 0 → e_n64 b = true ∧ ∃ f, S.2.2.2.2 ad = some (104, 1, f) ∧ f 0 = .double b) (k : ∀ a6 a7 a8, s_w X (d + 1) K_law 4021 (l_ll ax am ao ad i a6 a7 a8) [] S Q) : s_w X (d + 1) K_law pc (l_ll ax am ao ad i (some (.int k')) a7 a8) [.double b] S Q := by
  refine w_op (K := K_law) (pc' := pc + 2) (ll' := l_ll ax am ao ad i (some (.int k')) (some (.double b)) none) (st' := []) d0 rfl ?_
  refine l_thr (pc := pc + 2) d2 d3 d6 d8 hT h2 ht ?_
  refine w_op (K := K_law) (pc' := pc + 15) (ll' := l_ll ax am ao ad i (some (.int k')) (some (.double b)) none) (st' := [.int k']) d13 rfl ?_
  refine w_ifne (K := K_law) (t := pc + 50) d15 (by omega) (fun _ => ?_) (fun hk => ?_)
  · exact w_goto (K := K_law) (t := 4021) d50 hg (k _ _ _)
  · obtain ⟨hn9, f, hf9, hb9⟩ := hb hk
    refine w_op (K := K_law) (pc' := pc + 20) (ll' := l_ll ax am ao ad i (some (.int k')) (some (.double b)) none) (st' := [.ref ad]) d18 rfl ?_
    refine w_op (K := K_law) (pc' := pc + 21) (ll' := l_ll ax am ao ad i (some (.int k')) (some (.double b)) none) (st' := [.int 0, .ref ad]) d20 rfl ?_
    refine w_daldR (K := K_law) (n := 0) d21 hf9 ⟨by decide, rfl, by omega⟩ ?_
    rw [hb9]
    refine w_op (K := K_law) (pc' := pc + 24) (ll' := l_ll ax am ao ad i (some (.int k')) (some (.double b)) none) (st' := [.double b, .double b]) d22 rfl ?_
    refine w_op (K := K_law) (pc' := pc + 25) (ll' := l_ll ax am ao ad i (some (.int k')) (some (.double b)) none) (st' := [.int (Op.cmpValue (FP.dcmp b b) .l)]) d24 rfl ?_
    refine w_ifeq (K := K_law) (t := pc + 50) d25 (by omega) (fun _ => ?_) (fun z => absurd (l_dcmp hn9) z)
    exact w_goto (K := K_law) (t := 4021) d50 hg (k _ _ _)
end l_w
