/-! 29: calls, throws, natives, things being made, over the typed picture -/
section s_cs
variable {X : e_XT} {d : Nat} {K : e_KT} {pc ix mi pl ho t j : Nat} {i : Instr} {ll : e_LL} {st rest As a9 : List Value} {S S' : e_SS} {Q Q' : e_Rt → e_SS → Prop} {row : e_MT}
/-- the three forms of a call, over the typed picture -/
theorem w_callS (hd : decode K.2.2.1 pc = .ok (.invokestatic ix, 3)) (hcl : e_cl2 K.1 ix = some (ix, mi, pl, ho)) (hrow : e_M[mi]? = some row) (hmi : mi < 1000) (hho : ho = 0 ∨ (ho ≠ 0 ∧ row.1.2 ≠ 21 ∧ ∀ r S', Q' r S' → ∃ v, r = .inl v)) (hst : row.2.1.2 = true) (hn : As.length = row.2.1.1) (hni : row.1.1.name ≠ "<init>") (hcat : (rest.map fun v => v.category).sum ≤ 8)
    (hc : s_c X d mi As S Q') (hq : ∀ r S', Q' r S' → s_aft X (d + 1) K pc ll rest Q r S') : s_w X (d + 1) K pc ll (As.reverse ++ rest) S Q := fun h hs => by
  obtain ⟨r, h1, S1, a, b, c⟩ := hc h hs
  have k := hq r S1 a
  have hcf : e_cf K (.invokestatic ix) ix row As 0 As (As.reverse ++ rest) rest h := Or.inl ⟨rfl, hst, rfl, rfl⟩
  cases r with
  | inl v =>
    obtain ⟨r2, h2, S2, q, z, c2⟩ := k h1 b
    exact ⟨r2, h2, S2, q, z, e_J.call c hrow hcl hmi (fun z => (hho.resolve_left z).2.1) hcf hn hcat hd c2⟩
  | inr E =>
    rcases hho with rfl | hho
    · exact ⟨.inr E, h1, S1, k.2, b, e_J.callX c hrow hcl hmi hni hcf hn hcat hd k.1⟩
    · obtain ⟨v, hv⟩ := hho.2.2 _ _ a
      cases hv
theorem w_callV (hd : decode K.2.2.1 pc = .ok (.invokevirtual ix, 3)) (hcl : e_cl2 K.1 ix = some (ix, mi, pl, 0)) (hrow : e_M[mi]? = some row) (hmi : mi < 1000) (hst : row.2.1.2 = false) (hn : As.length = row.2.1.1) (hni : row.1.1.name ≠ "<init>") (h21 : row.1.2 < 21) (hcat : (rest.map fun v => v.category).sum ≤ 8) (hT : (e_T t).1 = row.1.2) (hv : s_v S t j)
    (hc : s_c X d mi (.ref (S.1.1 t j) :: As) S Q') (hq : ∀ r S', Q' r S' → s_aft X (d + 1) K pc ll rest Q r S') : s_w X (d + 1) K pc ll (As.reverse ++ .ref (S.1.1 t j) :: rest) S Q := fun h hs => by
  obtain ⟨r, h1, S1, a, b, c⟩ := hc h hs
  have k := hq r S1 a
  obtain ⟨q1, q2, q3, -, q5⟩ := hs.1.1 t j hv
  have hcf : e_cf K (.invokevirtual ix) ix row As (S.1.1 t j) (.ref (S.1.1 t j) :: As) (As.reverse ++ .ref (S.1.1 t j) :: rest) rest h := Or.inr (Or.inl ⟨rfl, hst, hni, rfl, rfl, Or.inl ⟨q2, q3.trans hT, h21⟩⟩)
  cases r with
  | inl v =>
    obtain ⟨r2, h2, S2, q, z, c2⟩ := k h1 b
    exact ⟨r2, h2, S2, q, z, e_J.call c hrow hcl hmi (fun z => absurd rfl z) hcf hn hcat hd c2⟩
  | inr E => exact ⟨.inr E, h1, S1, k.2, b, e_J.callX c hrow hcl hmi hni hcf hn hcat hd k.1⟩
/-- a receiver that is being made -/
theorem w_callVr {b : Nat} {o : Nat × Nat × (Nat → Value)} (hd : decode K.2.2.1 pc = .ok (.invokevirtual ix, 3)) (hcl : e_cl2 K.1 ix = some (ix, mi, pl, 0)) (hrow : e_M[mi]? = some row) (hmi : mi < 1000) (hst : row.2.1.2 = false) (hn : As.length = row.2.1.1) (hni : row.1.1.name ≠ "<init>") (h21 : row.1.2 < 21) (hcat : (rest.map fun v => v.category).sum ≤ 8) (hb : S.2.2.2.2 b = some o) (hT : o.1 = row.1.2)
    (hc : s_c X d mi (.ref b :: As) S Q') (hq : ∀ r S', Q' r S' → s_aft X (d + 1) K pc ll rest Q r S') : s_w X (d + 1) K pc ll (As.reverse ++ .ref b :: rest) S Q := fun h hs => by
  obtain ⟨r, h1, S1, a, b9, c⟩ := hc h hs
  have k := hq r S1 a
  obtain ⟨⟨q2, q3, -, -⟩, -⟩ := hs.2.2 b o hb
  have hcf : e_cf K (.invokevirtual ix) ix row As b (.ref b :: As) (As.reverse ++ .ref b :: rest) rest h := Or.inr (Or.inl ⟨rfl, hst, hni, rfl, rfl, Or.inl ⟨q2, q3.trans hT, h21⟩⟩)
  cases r with
  | inl v =>
    obtain ⟨r2, h2, S2, q, z, c2⟩ := k h1 b9
    exact ⟨r2, h2, S2, q, z, e_J.call c hrow hcl hmi (fun z => absurd rfl z) hcf hn hcat hd c2⟩
  | inr E => exact ⟨.inr E, h1, S1, k.2, b9, e_J.callX c hrow hcl hmi hni hcf hn hcat hd k.1⟩
theorem w_callI {b : Nat} (hd : decode K.2.2.1 pc = .ok (.invokespecial ix, 3)) (hcl : e_cl2 K.1 ix = some (ix, mi, pl, ho)) (hrow : e_M[mi]? = some row) (hmi : mi < 1000) (hho : ho ≠ 0 → row.1.2 ≠ 21) (hst : row.2.1.2 = false) (hn : As.length = row.2.1.1) (hni : row.1.1.name = "<init>") (hcat : (rest.map fun v => v.category).sum ≤ 8)
    (hc : s_c X d mi (.ref b :: As) S Q') (hq : ∀ r S', Q' r S' → r = .inl none ∧ s_w X (d + 1) K (pc + 3) ll rest S' Q) : s_w X (d + 1) K pc ll (As.reverse ++ .ref b :: rest) S Q := fun h hs => by
  obtain ⟨r, h1, S1, a, b9, c⟩ := hc h hs
  obtain ⟨rfl, k⟩ := hq r S1 a
  have hcf : e_cf K (.invokespecial ix) ix row As b (.ref b :: As) (As.reverse ++ .ref b :: rest) rest h := Or.inr (Or.inr ⟨rfl, hst, hni, rfl, rfl⟩)
  obtain ⟨r2, h2, S2, q, z, c2⟩ := k h1 b9
  exact ⟨r2, h2, S2, q, z, e_J.call c hrow hcl hmi hho hcf hn hcat hd c2⟩
theorem w_objinit {b : Nat} (ho31 : K.1 < 33) (hcl : e_cl2 K.1 ix = some (ix, 1000, pl, 0)) (hcat : (rest.map fun v => v.category).sum ≤ 8) (hd : decode K.2.2.1 pc = .ok (.invokespecial ix, 3)) (k : s_w X d K (pc + 3) ll rest S Q) : s_w X d K pc ll (.ref b :: rest) S Q := fun h hs => by
  obtain ⟨r, h', S', q, z, c⟩ := k h hs
  exact ⟨r, h', S', q, z, e_J.objinit ho31 hcl hcat hd c⟩
theorem s_is.add {h : e_Hp} (hs : s_is S h) (c s : Nat) : s_is (s_add S c s) (e_add h c s) := by
  obtain ⟨h1, ⟨h2, h3, h4⟩, h5⟩ := hs
  exact ⟨h1, ⟨by show e_c h + c = _; rw [h2]; rfl, by show e_s h + s = _; rw [h3]; rfl, Nat.le_trans h4 (Nat.le_add_right _ _)⟩, h5⟩
theorem w_throw {E ik is ic sp : Nat} {q : Nat × Nat × Nat × Nat × Nat × List Nat} {tx : String} (hq : q ∈ e_XP) (hE : q.1 = E) (hik : q.2.1 = ik) (hic : q.2.2.1 = ic) (hE6 : E < 6) (htx : (is, tx, sp) ∈ e_TX) (ho : K.1 = 15) (hh : K.2.2.2.2 = []) (hst : (st.map fun v => v.category).sum ≤ 8)
    (d0 : decode K.2.2.1 pc = .ok (.new ik, 3)) (d3 : decode K.2.2.1 (pc + 3) = .ok (.dup, 1)) (dd : (decode K.2.2.1 (pc + 4) = .ok (.ldc is, 2) ∧ decode K.2.2.1 (pc + 6) = .ok (.invokespecial ic, 3) ∧ decode K.2.2.1 (pc + 9) = .ok (.athrow, 1)) ∨ (decode K.2.2.1 (pc + 4) = .ok (.ldc_w is, 3) ∧ decode K.2.2.1 (pc + 7) = .ok (.invokespecial ic, 3) ∧ decode K.2.2.1 (pc + 10) = .ok (.athrow, 1)))
    (k : Q (.inr E) (s_add S 1 6)) : s_w X d K pc ll st S Q := fun h hs => ⟨.inr E, e_add h 1 6, s_add S 1 6, k, hs.add 1 6, e_J.throw hq hE hik hic hE6 htx ho hh hst d0 d3 dd⟩
/-- a wrapper's call: returns, or is caught -/
theorem w_catch {pre suf : List (Nat × Nat × Nat × Nat)} {sp ep hp hq ct jj pl9 E b : Nat} {n : Int} {r : e_Rt} (hrow : e_M[mi]? = some row) (hcl : e_cl2 K.1 ix = some (ix, mi, pl, 0)) (hmi : mi < 1000) (hni : row.1.1.name ≠ "<init>") (hst : row.2.1.2 = false) (h21 : row.1.2 < 21) (hn : As.length = row.2.1.1) (hcat : (rest.map fun v => v.category).sum ≤ 8) (hd : decode K.2.2.1 pc = .ok (.invokevirtual ix, 3))
    (hK : K.1 = 21) (hE : E < 6) (hh : K.2.2.2.2 = pre ++ (sp, ep, hp, ct) :: suf) (hcov : covers ⟨sp, ep, hp, ct⟩ pc = true) (hct : (ct, E, pl9) ∈ e_HK) (hct0 : ct ≠ 0) (hpre : ∀ z ∈ pre, z.2.2.2 ≠ 0 ∧ ∃ E' pl', E' < 6 ∧ E ≠ E' ∧ (z.2.2.2, E', pl') ∈ e_HK)
    (d1 : (∃ k : Fin 4, (k : Nat) = jj ∧ decode K.2.2.1 hp = .ok (.astore_n k, 1) ∧ hq = hp + 1) ∨ (decode K.2.2.1 hp = .ok (.astore jj, 2) ∧ hq = hp + 2)) (hj : jj < K.2.2.2.1) (d2 : decode K.2.2.1 hq = .ok (.iconst n, 1)) (d3 : decode K.2.2.1 (hq + 1) = .ok (.ireturn, 1))
    {h h1 : e_Hp} (hs : s_is S h) (hT : (e_T t).1 = row.1.2) (hv : s_v S t j) (hM : e_Mt X d mi (.ref (S.1.1 t j) :: As) h (.inr E) h1) : e_J X (d + 1) K pc ll (As.reverse ++ .ref (S.1.1 t j) :: rest) h (.inl (some (.int (Int32.ofInt n)))) h1 := by
  obtain ⟨q1, q2, q3, -, q5⟩ := hs.1.1 t j hv
  have hcf : e_cf K (.invokevirtual ix) ix row As (S.1.1 t j) (.ref (S.1.1 t j) :: As) (As.reverse ++ .ref (S.1.1 t j) :: rest) rest h := Or.inr (Or.inl ⟨rfl, hst, hni, rfl, rfl, Or.inl ⟨q2, q3.trans hT, h21⟩⟩)
  exact e_J.catch hM hrow hcl hmi hni hcf hn hcat hd hK hE hh hcov hct hct0 hpre d1 hj d2 d3
/-- the method's contract out of its body -/
theorem c_of {w : Cond} {y : MethodName} {bytes : ByteArray} {nL : Nat} {ret : Option FieldType} {hh : List (Nat × Nat × Nat × Nat)} {ini : Bool} {args : List Value} (h1 : e_M[mi]? = some row) (h2 : e_tb row.2.2.1 = some w) (h3 : e_cw (some w) = some (y, bytes, nL, ret, hh)) (hini : ini = true → row.1.1.name = "<init>") (hlen : (e_slx args).length ≤ nL)
    (J : s_w X d (row.1.2, ini, bytes, nL, hh) 0 (e_ent0 args nL) [] S (fun r S' => e_rcr ret r = true ∧ Q r S')) : s_c X d mi args S Q := fun h hs => by
  obtain ⟨r, h', S', q, z, c⟩ := J h hs
  exact ⟨r, h', S', q.2, z, e_Mt.of h1 h2 h3 hini hlen q.1 c⟩
/-! things that are being made -/
def s_mk (S : e_SS) (a kd ln sl : Nat) : e_SS := (S.1, S.2.1, S.2.2.1, (S.2.2.2.1.1 + 1, S.2.2.2.1.2 + sl), fun b => if b = a then some (kd, ln, fun _ => .null) else S.2.2.2.2 b)
def s_rs (S : e_SS) (a : Nat) (kd ln : Nat) (f : Nat → Value) : e_SS := (S.1, S.2.1, S.2.2.1, S.2.2.2.1, fun b => if b = a then some (kd, ln, f) else S.2.2.2.2 b)
/-- a is nothing that there is -/
def s_fr (S : e_SS) (a : Nat) : Prop := S.2.2.2.2 a = none ∧ (∀ t i, s_v S t i → S.1.1 t i ≠ a) ∧ a < e_xb
theorem e_rep.new {p : e_Sp} {I : e_I} {J : e_Jt} {h : e_Hp} {kd ln sl : Nat} (hR : e_rep p I J h) : e_rep p I J (e_new h kd ln sl) := by
  obtain ⟨r1, r2, r3, r4, r5, r6, r7⟩ := hR
  have key : ∀ t i s, p.2.1 t i = true → e_v (e_new h kd ln sl) (p.1 t i) s = e_v h (p.1 t i) s := fun t i s hv => by
    have := (r1 t i hv).2.1
    rw [e_v_new_ne (by omega)]
  refine ⟨fun t i hv => ?_, fun F' i' hF' hv' => by rw [key _ _ _ hv']; exact r2 F' i' hF' hv', fun F' i' hF' hv' => by rw [key _ _ _ hv']; exact r3 F' i' hF' hv', fun G i' hG hv' => by rw [key _ _ _ hv']; exact r4 G i' hG hv', fun l j hl hj => ?_, fun r hr => ?_, fun k hk => by rw [key _ _ _ hk, key _ _ _ hk]; exact r7 k hk⟩
  · obtain ⟨a, b, c, e, f⟩ := r1 t i hv
    have hne : ¬ p.1 t i = h.1.1 := fun z => by have : p.1 t i < h.1.1 := b; omega
    refine ⟨a, Nat.lt_succ_of_lt b, ?_, e, ?_⟩
    · show ((if p.1 t i = h.1.1 then (kd, ln) else h.2.1 (p.1 t i)) : Nat × Nat).1 = _; rw [if_neg hne]; exact c
    · show ((if p.1 t i = h.1.1 then (kd, ln) else h.2.1 (p.1 t i)) : Nat × Nat).2 = _; rw [if_neg hne]; exact f
  · obtain ⟨q1, q2, q3, q4⟩ := r5 l j hl hj
    exact ⟨q1, q2, q3, by rw [key _ _ _ q1]; exact q4⟩
  · obtain ⟨q1, q2⟩ := r6 r hr
    exact ⟨q1, fun j hj => ⟨(q2 j hj).1, by rw [key _ _ _ q1]; exact (q2 j hj).2⟩⟩
theorem s_is.new {h : e_Hp} {kd ln sl : Nat} (hs : s_is S h) (hx : e_n h < e_xb) : s_fr S (e_n h) ∧ s_is (s_mk S (e_n h) kd ln sl) (e_new h kd ln sl) := by
  obtain ⟨h1, ⟨h2, h3, h4⟩, h5⟩ := hs
  have hf : s_fr S (e_n h) := ⟨by
      cases e : S.2.2.2.2 (e_n h) with
      | none => rfl
      | some o => exact absurd (h5 _ o e).1.1 (Nat.lt_irrefl _), fun t i hv z => by have := (h1.1 t i hv).2.1; omega, hx⟩
  refine ⟨hf, h1.new, ⟨by show e_c h + 1 = _; rw [h2]; rfl, by show e_s h + sl = _; rw [h3]; rfl, Nat.succ_le_succ h4⟩, fun a o ho => ?_⟩
  have ho : (if a = e_n h then some (kd, ln, fun _ => .null) else S.2.2.2.2 a) = some o := ho
  by_cases e : a = e_n h
  · rw [if_pos e] at ho
    cases ho
    subst e
    obtain ⟨n1, n2, n3⟩ := e_nd_new h kd ln sl
    exact ⟨⟨Nat.lt_succ_self _, n1, n2, fun s => by rw [n3]⟩, hf.2.1⟩
  · rw [if_neg e] at ho
    obtain ⟨⟨g1, g2, g3, g4⟩, g5⟩ := h5 a o ho
    refine ⟨⟨Nat.lt_succ_of_lt g1, ?_, ?_, fun s => by rw [e_v_new_ne e]; exact g4 s⟩, g5⟩
    · show ((if a = h.1.1 then (kd, ln) else h.2.1 a) : Nat × Nat).1 = _; rw [if_neg (show ¬ a = h.1.1 from e)]; exact g2
    · show ((if a = h.1.1 then (kd, ln) else h.2.1 a) : Nat × Nat).2 = _; rw [if_neg (show ¬ a = h.1.1 from e)]; exact g3
theorem w_new {ci pl : Nat} (hd : decode K.2.2.1 pc = .ok (.new ix, 3)) (hk : e_nl K.1 ix = some (ix, ci, pl)) (hx : S.2.2.2.1.1 < e_xb) (k : ∀ a, s_fr S a → s_w X d K (pc + 3) ll (.ref a :: st) (s_mk S a ci 0 (e_cF ci)) Q) : s_w X d K pc ll st S Q := fun h hs => by
  have hn : e_n h < e_xb := by have := hs.2.1; omega
  obtain ⟨f, g⟩ := hs.new (kd := ci) (ln := 0) (sl := e_cF ci) hn
  obtain ⟨r, h', S', q, z, c⟩ := k (e_n h) f _ g
  refine ⟨r, h', S', q, z, e_J.hop (e_hopD rfl rfl rfl ?_) hd c⟩
  show (match e_nl K.1 ix with
    | some r => if e_n h < e_xb then some (Value.ref (e_n h) :: st, e_new h r.2.1 0 (e_cF r.2.1)) else none
    | none => none) = _
  rw [hk]
  exact if_pos hn
theorem w_newarr {ty : ArrayType} {x : Int32} {n : Nat} (hd : decode K.2.2.1 pc = .ok (.newarray ty, 2)) (ht : 100 ≤ e_at ty) (hx : 0 ≤ x ∧ x.toNatClampNeg = n) (hn : n * 8 ≤ 536870912) (hc : S.2.2.2.1.1 < e_xb) (k : ∀ a, s_fr S a → s_w X d K (pc + 2) ll (.ref a :: st) (s_mk S a (e_at ty) n n) Q) : s_w X d K pc ll (.int x :: st) S Q := fun h hs => by
  have hnn : e_n h < e_xb := by have := hs.2.1; omega
  obtain ⟨f, g⟩ := hs.new (kd := e_at ty) (ln := n) (sl := n) hnn
  obtain ⟨r, h', S', q, z, c⟩ := k (e_n h) f _ g
  refine ⟨r, h', S', q, z, e_J.hop (e_hopD rfl rfl rfl ?_) hd c⟩
  show (if 100 ≤ e_at ty ∧ 0 ≤ x ∧ x.toNatClampNeg * 8 ≤ 536870912 ∧ e_n h < e_xb then some (Value.ref (e_n h) :: st, e_new h (e_at ty) x.toNatClampNeg x.toNatClampNeg) else none) = _
  rw [hx.2, if_pos ⟨ht, hx.1, hn, hnn⟩]
theorem w_anewarr {x : Int32} {n ci pl : Nat} (hd : decode K.2.2.1 pc = .ok (.anewarray ix, 3)) (hk : e_kl K.1 ix = some (ix, ci, pl)) (hci : ci = 10 ∨ ci = 24) (hx : 0 ≤ x ∧ x.toNatClampNeg = n) (hn : n * 8 ≤ 536870912) (hc : S.2.2.2.1.1 < e_xb) (k : ∀ a, s_fr S a → s_w X d K (pc + 3) ll (.ref a :: st) (s_mk S a (if ci = 10 then 106 else 105) n n) Q) : s_w X d K pc ll (.int x :: st) S Q := fun h hs => by
  have hnn : e_n h < e_xb := by have := hs.2.1; omega
  obtain ⟨f, g⟩ := hs.new (kd := if ci = 10 then 106 else 105) (ln := n) (sl := n) hnn
  obtain ⟨r, h', S', q, z, c⟩ := k (e_n h) f _ g
  refine ⟨r, h', S', q, z, e_J.hop (e_hopD rfl rfl rfl ?_) hd c⟩
  show (match e_kl K.1 ix with
    | some r => if (r.2.1 = 10 ∨ r.2.1 = 24) ∧ 0 ≤ x ∧ x.toNatClampNeg * 8 ≤ 536870912 ∧ e_n h < e_xb then some (Value.ref (e_n h) :: st, e_new h (if r.2.1 = 10 then 106 else 105) x.toNatClampNeg x.toNatClampNeg) else none
    | none => none) = _
  rw [hk]
  show (if (ci = 10 ∨ ci = 24) ∧ 0 ≤ x ∧ x.toNatClampNeg * 8 ≤ 536870912 ∧ e_n h < e_xb then some (Value.ref (e_n h) :: st, e_new h (if ci = 10 then 106 else 105) x.toNatClampNeg x.toNatClampNeg) else none) = _
  rw [hx.2, if_pos ⟨hci, hx.1, hn, hnn⟩]
theorem s_is.rset {h : e_Hp} {a kd ln s : Nat} {f : Nat → Value} {v : Value} (hs : s_is S h) (hw : S.2.2.2.2 a = some (kd, ln, f)) : s_is (s_rs S a kd ln (fun s' => if s' = s then v else f s')) (e_set h a s v) := by
  obtain ⟨h1, h2, h5⟩ := hs
  obtain ⟨⟨g1, g2, g3, g4⟩, g5⟩ := h5 a _ hw
  have key : ∀ t i s', S.1.2.1 t i = true → e_v (e_set h a s v) (S.1.1 t i) s' = e_v h (S.1.1 t i) s' := fun t i s' hv => e_v_ne (Or.inl (g5 t i hv))
  have hrep : e_rep S.1 S.2.1 S.2.2.1 (e_set h a s v) := by
    obtain ⟨r1, r2, r3, r4, r5, r6, r7⟩ := h1
    refine ⟨r1, fun F' i' hF' hv' => by rw [key _ _ _ hv']; exact r2 F' i' hF' hv', fun F' i' hF' hv' => by rw [key _ _ _ hv']; exact r3 F' i' hF' hv', fun G i' hG hv' => by rw [key _ _ _ hv']; exact r4 G i' hG hv', fun l j hl hj => ?_, fun r hr => ?_, fun k hk => by rw [key _ _ _ hk, key _ _ _ hk]; exact r7 k hk⟩
    · obtain ⟨q1, q2, q3, q4⟩ := r5 l j hl hj
      exact ⟨q1, q2, q3, by rw [key _ _ _ q1]; exact q4⟩
    · obtain ⟨q1, q2⟩ := r6 r hr
      exact ⟨q1, fun j hj => ⟨(q2 j hj).1, by rw [key _ _ _ q1]; exact (q2 j hj).2⟩⟩
  refine ⟨hrep, h2, fun b o ho => ?_⟩
  · have ho : (if b = a then some (kd, ln, fun s' => if s' = s then v else f s') else S.2.2.2.2 b) = some o := ho
    by_cases e : b = a
    · rw [if_pos e] at ho
      cases ho
      subst e
      refine ⟨⟨g1, g2, g3, fun s' => ?_⟩, g5⟩
      by_cases e2 : s' = s
      · subst e2; rw [e_v_eq]; exact (if_pos rfl).symm
      · rw [e_v_ne (Or.inr e2)]; exact (g4 s').trans (if_neg e2).symm
    · rw [if_neg e] at ho
      obtain ⟨⟨k1, k2, k3, k4⟩, k5⟩ := h5 b o ho
      exact ⟨⟨k1, k2, k3, fun s' => by rw [e_v_ne (Or.inl e)]; exact k4 s'⟩, k5⟩
/-- a field of a thing being made is written, is read -/
theorem w_putR {a ci sl pl ln : Nat} {f : Nat → Value} {v : Value} (hd : decode K.2.2.1 pc = .ok (.putfield ix, 3)) (hfl : e_fl K.1 ix = some (ix, ci, sl, pl, ho)) (hw : S.2.2.2.2 a = some (ci, ln, f)) (hck : e_ck (e_cY ci sl) v = true) (hfin : (e_cT ci sl).2.2.2 = false ∨ (K.2.1 = true ∧ ci = K.1 ∧ ho = 0)) (k : s_w X d K (pc + 3) ll st (s_rs S a ci ln (fun s' => if s' = sl then v else f s')) Q) : s_w X d K pc ll (v :: .ref a :: st) S Q := by
  refine w_hop hd (fun h hs => ⟨e_set h a sl v, e_hopA ?_, hs.rset hw⟩) k
  obtain ⟨⟨g1, g2, g3, g4⟩, g5⟩ := hs.2.2 a _ hw
  show (match e_fl K.1 ix with
    | some r => if a < e_n h ∧ e_kd h a = r.2.1 ∧ e_ck (e_cY r.2.1 r.2.2.1) v = true ∧ ((e_cT r.2.1 r.2.2.1).2.2.2 = false ∨ (K.2.1 = true ∧ r.2.1 = K.1 ∧ r.2.2.2.2 = 0)) then some (st, e_set h a r.2.2.1 v) else none
    | none => none) = _
  rw [hfl]
  exact if_pos ⟨g1, g2, hck, hfin⟩
theorem w_getR {a ci sl pl ln : Nat} {f : Nat → Value} {v : Value} (hd : decode K.2.2.1 pc = .ok (.getfield ix, 3)) (hfl : e_fl K.1 ix = some (ix, ci, sl, pl, ho)) (hw : S.2.2.2.2 a = some (ci, ln, f)) (hv : e_rd (e_cY ci sl) (f sl) = v) (k : s_w X d K (pc + 3) ll (v :: st) S Q) : s_w X d K pc ll (.ref a :: st) S Q := by
  refine w_hop hd (fun h hs => ⟨h, e_hopA ?_, hs⟩) k
  obtain ⟨⟨g1, g2, g3, g4⟩, g5⟩ := hs.2.2 a _ hw
  show (match e_fl K.1 ix with
    | some r => if a < e_n h ∧ e_kd h a = r.2.1 then some (e_rd (e_cY r.2.1 r.2.2.1) (e_v h a r.2.2.1) :: st, h) else none
    | none => none) = _
  rw [hfl]
  show (if a < e_n h ∧ e_kd h a = ci then some (e_rd (e_cY ci sl) (e_v h a sl) :: st, h) else none) = _
  rw [if_pos ⟨g1, g2⟩, g4, hv]
/-- a row being made: an int, a reference is stored; its length -/
theorem w_iastR {a ln n : Nat} {f : Nat → Value} {x y : Int32} (hd : decode K.2.2.1 pc = .ok (.iastore, 1)) (hw : S.2.2.2.2 a = some (100, ln, f)) (hx : s_ix x n ln) (k : s_w X d K (pc + 1) ll st (s_rs S a 100 ln (fun s' => if s' = n then .int y else f s')) Q) : s_w X d K pc ll (.int y :: .int x :: .ref a :: st) S Q := by
  refine w_hop hd (fun h hs => ⟨e_set h a n (.int y), e_hopC rfl rfl ?_, hs.rset hw⟩) k
  obtain ⟨⟨g1, g2, g3, g4⟩, g5⟩ := hs.2.2 a _ hw
  show (if a < e_n h ∧ e_kd h a = 100 ∧ e_in x (e_ln h a) = true then some (st, e_set h a x.toNatClampNeg (.int y)) else none) = _
  rw [if_pos ⟨g1, g2, by rw [g3]; exact hx.ein⟩, hx.2.1]
theorem w_castR {a ln n : Nat} {f : Nat → Value} {x y : Int32} (hd : decode K.2.2.1 pc = .ok (.castore, 1)) (hw : S.2.2.2.2 a = some (102, ln, f)) (hx : s_ix x n ln) (hy : vp_nar .char y = y) (k : s_w X d K (pc + 1) ll st (s_rs S a 102 ln (fun s' => if s' = n then .int y else f s')) Q) : s_w X d K pc ll (.int y :: .int x :: .ref a :: st) S Q := by
  refine w_hop hd (fun h hs => ⟨e_set h a n (.int y), e_hopC rfl rfl ?_, hs.rset hw⟩) k
  obtain ⟨⟨g1, g2, g3, g4⟩, g5⟩ := hs.2.2 a _ hw
  show (if a < e_n h ∧ e_kd h a = 102 ∧ e_in x (e_ln h a) = true then some (st, e_set h a x.toNatClampNeg (.int (vp_nar .char y))) else none) = _
  rw [if_pos ⟨g1, g2, by rw [g3]; exact hx.ein⟩, hx.2.1, hy]
theorem w_alenR {a ln kd : Nat} {f : Nat → Value} (hd : decode K.2.2.1 pc = .ok (.arraylength, 1)) (hw : S.2.2.2.2 a = some (kd, ln, f)) (hk : 100 ≤ kd ∧ kd ≤ 106) (k : s_w X d K (pc + 1) ll (.int (nI ln) :: st) S Q) : s_w X d K pc ll (.ref a :: st) S Q := by
  refine w_hop hd (fun h hs => ⟨h, e_hopE rfl rfl rfl rfl ?_, hs⟩) k
  obtain ⟨⟨g1, g2, g3, g4⟩, g5⟩ := hs.2.2 a _ hw
  show (if a < e_n h then (if 100 ≤ e_kd h a ∧ e_kd h a ≤ 106 then some (Value.int (Int32.ofNat (e_ln h a)) :: st, h) else none) else _) = _
  have g2 : e_kd h a = kd := g2
  have g3 : e_ln h a = ln := g3
  rw [if_pos g1, g2, if_pos hk, g3]; rfl
/-- nothing is done: what is known is said otherwise -/
theorem w_ghost (hg : ∀ h, s_is S h → s_is S' h) (k : s_w X d K pc ll st S' Q) : s_w X d K pc ll st S Q := fun h hs => k h (hg h hs)
theorem c_ghost {args : List Value} (hg : ∀ h, s_is S h → s_is S' h) (k : s_c X d mi args S' Q) : s_c X d mi args S Q := fun h hs => k h (hg h hs)
end s_cs
