/-! 9999999999999: the law's own rows: rows of one long, of one double; a call whose exceptions are caught -/
section l_s
variable {X : e_XT} {d : Nat} {K : e_KT} {pc ix mi pl t j : Nat} {i : Instr} {ll : e_LL} {st rest As : List Value} {S S' : e_SS} {Q Q' : e_Rt → e_SS → Prop} {row : e_MT}
theorem w_lastR {a ln n : Nat} {f : Nat → Value} {x : Int32} {y : Int64} (hd : decode K.2.2.1 pc = .ok (.lastore, 1)) (hw : S.2.2.2.2 a = some (103, ln, f)) (hx : s_ix x n ln) (k : s_w X d K (pc + 1) ll st (s_rs S a 103 ln (fun s' => if s' = n then .long y else f s')) Q) : s_w X d K pc ll (.long y :: .int x :: .ref a :: st) S Q := by
  refine w_hop hd (fun h hs => ⟨e_set h a n (.long y), e_hopC rfl rfl ?_, hs.rset hw⟩) k
  obtain ⟨⟨g1, g2, g3, g4⟩, g5⟩ := hs.2.2 a _ hw
  show (if a < e_n h ∧ e_kd h a = 103 ∧ e_in x (e_ln h a) = true then some (st, e_set h a x.toNatClampNeg (.long y)) else none) = _
  rw [if_pos ⟨g1, g2, by rw [g3]; exact hx.ein⟩, hx.2.1]
theorem w_dastR {a ln n : Nat} {f : Nat → Value} {x : Int32} {y : UInt64} (hd : decode K.2.2.1 pc = .ok (.dastore, 1)) (hw : S.2.2.2.2 a = some (104, ln, f)) (hx : s_ix x n ln) (k : s_w X d K (pc + 1) ll st (s_rs S a 104 ln (fun s' => if s' = n then .double y else f s')) Q) : s_w X d K pc ll (.double y :: .int x :: .ref a :: st) S Q := by
  refine w_hop hd (fun h hs => ⟨e_set h a n (.double y), e_hopC rfl rfl ?_, hs.rset hw⟩) k
  obtain ⟨⟨g1, g2, g3, g4⟩, g5⟩ := hs.2.2 a _ hw
  show (if a < e_n h ∧ e_kd h a = 104 ∧ e_in x (e_ln h a) = true then some (st, e_set h a x.toNatClampNeg (.double y)) else none) = _
  rw [if_pos ⟨g1, g2, by rw [g3]; exact hx.ein⟩, hx.2.1]
theorem w_laldR {a ln n : Nat} {f : Nat → Value} {x : Int32} (hd : decode K.2.2.1 pc = .ok (.laload, 1)) (hw : S.2.2.2.2 a = some (103, ln, f)) (hx : s_ix x n ln) (k : s_w X d K (pc + 1) ll (.long (e_toJ (f n)) :: st) S Q) : s_w X d K pc ll (.int x :: .ref a :: st) S Q := by
  refine w_hop hd (fun h hs => ⟨h, e_hopB rfl ?_, hs⟩) k
  obtain ⟨⟨g1, g2, g3, g4⟩, g5⟩ := hs.2.2 a _ hw
  show (if a < e_n h ∧ e_kd h a = 103 ∧ e_in x (e_ln h a) = true then some (Value.long (e_toJ (e_v h a x.toNatClampNeg)) :: st, h) else none) = _
  rw [if_pos ⟨g1, g2, by rw [g3]; exact hx.ein⟩, hx.2.1, g4]
theorem w_daldR {a ln n : Nat} {f : Nat → Value} {x : Int32} (hd : decode K.2.2.1 pc = .ok (.daload, 1)) (hw : S.2.2.2.2 a = some (104, ln, f)) (hx : s_ix x n ln) (k : s_w X d K (pc + 1) ll (.double (e_toD (f n)) :: st) S Q) : s_w X d K pc ll (.int x :: .ref a :: st) S Q := by
  refine w_hop hd (fun h hs => ⟨h, e_hopB rfl ?_, hs⟩) k
  obtain ⟨⟨g1, g2, g3, g4⟩, g5⟩ := hs.2.2 a _ hw
  show (if a < e_n h ∧ e_kd h a = 104 ∧ e_in x (e_ln h a) = true then some (Value.double (e_toD (e_v h a x.toNatClampNeg)) :: st, h) else none) = _
  rw [if_pos ⟨g1, g2, by rw [g3]; exact hx.ein⟩, hx.2.1, g4]
/-- the exception E is caught, and n is the answer -/
def l_ct (K : e_KT) (pc E : Nat) (n : Int) : Prop := ∃ pre suf : List (Nat × Nat × Nat × Nat), ∃ sp ep hp hq ct jj pl9 : Nat, E < 6 ∧ K.2.2.2.2 = pre ++ (sp, ep, hp, ct) :: suf ∧ covers ⟨sp, ep, hp, ct⟩ pc = true ∧ (ct, E, pl9) ∈ e_HK ∧ ct ≠ 0 ∧ (∀ z ∈ pre, z.2.2.2 ≠ 0 ∧ ∃ E' pl', E' < 6 ∧ E ≠ E' ∧ (z.2.2.2, E', pl') ∈ e_HK) ∧ ((∃ k : Fin 4, (k : Nat) = jj ∧ decode K.2.2.1 hp = .ok (.astore_n k, 1) ∧ hq = hp + 1) ∨ (decode K.2.2.1 hp = .ok (.astore jj, 2) ∧ hq = hp + 2)) ∧ jj < K.2.2.2.1 ∧ decode K.2.2.1 hq = .ok (.iconst n, 1) ∧ decode K.2.2.1 (hq + 1) = .ok (.ireturn, 1)
def l_aft (X : e_XT) (d : Nat) (K : e_KT) (pc : Nat) (ll : e_LL) (rest : List Value) (tb : List (Nat × Int)) (Q : e_Rt → e_SS → Prop) (r : e_Rt) (S : e_SS) : Prop := match r with
  | .inl v => s_w X d K (pc + 3) ll (v.toList ++ rest) S Q
  | .inr E => ∃ n, (E, n) ∈ tb ∧ Q (.inl (some (.int (Int32.ofInt n)))) S
theorem w_callC {tb : List (Nat × Int)} (hd : decode K.2.2.1 pc = .ok (.invokevirtual ix, 3)) (hcl : e_cl2 K.1 ix = some (ix, mi, pl, 0)) (hrow : e_M[mi]? = some row) (hmi : mi < 1000) (hst : row.2.1.2 = false) (hn : As.length = row.2.1.1) (hni : row.1.1.name ≠ "<init>") (h21 : row.1.2 < 21) (hcat : (rest.map fun v => v.category).sum ≤ 8) (hT : (e_T t).1 = row.1.2) (hv : s_v S t j) (hK : K.1 = 21) (hct : ∀ E n, (E, n) ∈ tb → l_ct K pc E n)
    (hc : s_c X d mi (.ref (S.1.1 t j) :: As) S Q') (hq : ∀ r S', Q' r S' → l_aft X (d + 1) K pc ll rest tb Q r S') : s_w X (d + 1) K pc ll (As.reverse ++ .ref (S.1.1 t j) :: rest) S Q := fun h hs => by
  obtain ⟨r, h1, S1, a, b, c⟩ := hc h hs
  have k := hq r S1 a
  obtain ⟨q1, q2, q3, -, q5⟩ := hs.1.1 t j hv
  have hcf : e_cf K (.invokevirtual ix) ix row As (S.1.1 t j) (.ref (S.1.1 t j) :: As) (As.reverse ++ .ref (S.1.1 t j) :: rest) rest h := Or.inr (Or.inl ⟨rfl, hst, hni, rfl, rfl, q2, q3.trans hT, h21⟩)
  cases r with
  | inl v =>
    obtain ⟨r2, h2, S2, q, z, c2⟩ := k h1 b
    exact ⟨r2, h2, S2, q, z, e_J.call c hrow hcl hmi (fun z => absurd rfl z) hcf hn hcat hd c2⟩
  | inr E =>
    obtain ⟨n, hn9, q⟩ := k
    obtain ⟨pre, suf, sp, ep, hp, hq, ct, jj, pl9, e1, e2, e3, e4, e5, e6, e7, e8, e9, e10⟩ := hct E n hn9
    exact ⟨_, h1, S1, q, b, w_catch (b := 0) (r := .inl none) hrow hcl hmi hni hst h21 hn hcat hd hK e1 e2 e3 e4 e5 e6 e7 e8 e9 e10 hs hT hv c⟩
/-- what a wrapper makes of an answer: an int, a yes or no, a float, a double -/
def l_Wi (ao : Nat) (tb : List (Nat × Int)) (Q : e_Rt → e_SS → Prop) (r : e_Rt) (S : e_SS) : Prop := match r with
  | .inl (some (.int x)) => ∃ f, S.2.2.2.2 ao = some (103, 1, f) ∧ Q (.inl (some (.int 0))) (s_rs S ao 103 1 (fun s' => if s' = 0 then .long x.toInt64 else f s'))
  | .inr E => ∃ n, (E, n) ∈ tb ∧ Q (.inl (some (.int (Int32.ofInt n)))) S
  | _ => False
def l_Wb (ao : Nat) (tb : List (Nat × Int)) (Q : e_Rt → e_SS → Prop) (r : e_Rt) (S : e_SS) : Prop := match r with
  | .inl (some (.int x)) => ∃ f, S.2.2.2.2 ao = some (103, 1, f) ∧ Q (.inl (some (.int 0))) (s_rs S ao 103 1 (fun s' => if s' = 0 then .long (if x = 0 then 0 else 1) else f s'))
  | .inr E => ∃ n, (E, n) ∈ tb ∧ Q (.inl (some (.int (Int32.ofInt n)))) S
  | _ => False
def l_Wf (ao : Nat) (tb : List (Nat × Int)) (Q : e_Rt → e_SS → Prop) (r : e_Rt) (S : e_SS) : Prop := match r with
  | .inl (some (.float x)) => e_n64 (FP.f2d x) = true ∧ ∃ f, S.2.2.2.2 ao = some (104, 1, f) ∧ Q (.inl (some (.int 0))) (s_rs S ao 104 1 (fun s' => if s' = 0 then .double (FP.f2d x) else f s'))
  | .inr E => ∃ n, (E, n) ∈ tb ∧ Q (.inl (some (.int (Int32.ofInt n)))) S
  | _ => False
def l_Wd (ao : Nat) (tb : List (Nat × Int)) (Q : e_Rt → e_SS → Prop) (r : e_Rt) (S : e_SS) : Prop := match r with
  | .inl (some (.double x)) => ∃ f, S.2.2.2.2 ao = some (104, 1, f) ∧ Q (.inl (some (.int 0))) (s_rs S ao 104 1 (fun s' => if s' = 0 then .double x else f s'))
  | .inr E => ∃ n, (E, n) ∈ tb ∧ Q (.inl (some (.int (Int32.ofInt n)))) S
  | _ => False
/-- how a wrapper goes on behind the call -/
abbrev l_Q (Q : e_Rt → e_SS → Prop) : e_Rt → e_SS → Prop := fun r S' => e_rcr (some FieldType.int) r = true ∧ Q r S'
theorem l_end {g : Nat} {off : Int} {p1 : Nat} (d3 : decode K.2.2.1 p1 = .ok (.goto off, 3)) (ht : (p1 : Int) + off = (g : Int)) (d4 : decode K.2.2.1 g = .ok (.iconst 0, 1)) (d5 : decode K.2.2.1 (g + 1) = .ok (.ireturn, 1)) (hq : Q (.inl (some (.int 0))) S) : s_w X d K p1 ll [] S (l_Q Q) := by
  refine w_goto d3 ht ?_
  refine w_op (pc' := g + 1) d4 rfl ?_
  exact w_ireturn d5 ⟨rfl, hq⟩
theorem l_cI {tb : List (Nat × Int)} {ao g : Nat} {off : Int} (d1 : decode K.2.2.1 (pc + 3) = .ok (.i2l, 1)) (d2 : decode K.2.2.1 (pc + 4) = .ok (.lastore, 1)) (d3 : decode K.2.2.1 (pc + 5) = .ok (.goto off, 3)) (ht : ((pc + 5 : Nat) : Int) + off = (g : Int)) (d4 : decode K.2.2.1 g = .ok (.iconst 0, 1)) (d5 : decode K.2.2.1 (g + 1) = .ok (.ireturn, 1)) (r : e_Rt) (S' : e_SS) (h : l_Wi ao tb Q r S') : l_aft X d K pc ll [.int 0, .ref ao] tb (l_Q Q) r S' := by
  match r, h with
  | .inl (some (.int x)), ⟨f, hf, hq⟩ =>
    show s_w X d K (pc + 3) ll [.int x, .int 0, .ref ao] S' (l_Q Q)
    refine w_op (pc' := pc + 4) d1 rfl ?_
    refine w_lastR (n := 0) d2 hf ⟨by decide, rfl, by decide⟩ ?_
    exact l_end d3 ht d4 d5 hq
  | .inr E, ⟨n, hn, hq⟩ => exact ⟨n, hn, rfl, hq⟩
theorem l_cB {tb : List (Nat × Int)} {ao g : Nat} {off : Int} (d0 : decode K.2.2.1 (pc + 3) = .ok (.ifCond .eq 7, 3)) (d1 : decode K.2.2.1 (pc + 6) = .ok (.lconst 1, 1)) (d1' : decode K.2.2.1 (pc + 7) = .ok (.goto 4, 3)) (d1'' : decode K.2.2.1 (pc + 10) = .ok (.lconst 0, 1)) (d2 : decode K.2.2.1 (pc + 11) = .ok (.lastore, 1)) (d3 : decode K.2.2.1 (pc + 12) = .ok (.goto off, 3)) (ht : ((pc + 12 : Nat) : Int) + off = (g : Int)) (d4 : decode K.2.2.1 g = .ok (.iconst 0, 1)) (d5 : decode K.2.2.1 (g + 1) = .ok (.ireturn, 1)) (r : e_Rt) (S' : e_SS) (h : l_Wb ao tb Q r S') : l_aft X d K pc ll [.int 0, .ref ao] tb (l_Q Q) r S' := by
  match r, h with
  | .inl (some (.int x)), ⟨f, hf, hq⟩ =>
    show s_w X d K (pc + 3) ll [.int x, .int 0, .ref ao] S' (l_Q Q)
    refine w_ifeq (t := pc + 10) d0 (by omega) (fun z => ?_) (fun z => ?_)
    · rw [if_pos z] at hq
      refine w_op (pc' := pc + 11) d1'' rfl ?_
      refine w_lastR (n := 0) d2 hf ⟨by decide, rfl, by decide⟩ ?_
      exact l_end d3 ht d4 d5 hq
    · rw [if_neg z] at hq
      refine w_op (pc' := pc + 7) d1 rfl ?_
      refine w_goto (t := pc + 11) d1' (by omega) ?_
      refine w_lastR (n := 0) d2 hf ⟨by decide, rfl, by decide⟩ ?_
      exact l_end d3 ht d4 d5 hq
  | .inr E, ⟨n, hn, hq⟩ => exact ⟨n, hn, rfl, hq⟩
theorem l_cF {tb : List (Nat × Int)} {ao g : Nat} {off : Int} (d1 : decode K.2.2.1 (pc + 3) = .ok (.f2d, 1)) (d2 : decode K.2.2.1 (pc + 4) = .ok (.dastore, 1)) (d3 : decode K.2.2.1 (pc + 5) = .ok (.goto off, 3)) (ht : ((pc + 5 : Nat) : Int) + off = (g : Int)) (d4 : decode K.2.2.1 g = .ok (.iconst 0, 1)) (d5 : decode K.2.2.1 (g + 1) = .ok (.ireturn, 1)) (r : e_Rt) (S' : e_SS) (h : l_Wf ao tb Q r S') : l_aft X d K pc ll [.int 0, .ref ao] tb (l_Q Q) r S' := by
  match r, h with
  | .inl (some (.float x)), ⟨hn, f, hf, hq⟩ =>
    show s_w X d K (pc + 3) ll [.float x, .int 0, .ref ao] S' (l_Q Q)
    refine w_op (pc' := pc + 4) (st' := [.double (FP.f2d x), .int 0, .ref ao]) (ll' := ll) d1 ?_ ?_
    · show e_op K.2.2.2.1 .f2d 1 (pc + 3) ll [.float x, .int 0, .ref ao] = _
      unfold e_op
      simp [e_opA, e_opB, e_opC, e_opD, e_opE, e_opF, hn]
    refine w_dastR (n := 0) d2 hf ⟨by decide, rfl, by decide⟩ ?_
    exact l_end d3 ht d4 d5 hq
  | .inr E, ⟨n, hn, hq⟩ => exact ⟨n, hn, rfl, hq⟩
theorem l_cD {tb : List (Nat × Int)} {ao g : Nat} {off : Int} (d2 : decode K.2.2.1 (pc + 3) = .ok (.dastore, 1)) (d3 : decode K.2.2.1 (pc + 4) = .ok (.goto off, 3)) (ht : ((pc + 4 : Nat) : Int) + off = (g : Int)) (d4 : decode K.2.2.1 g = .ok (.iconst 0, 1)) (d5 : decode K.2.2.1 (g + 1) = .ok (.ireturn, 1)) (r : e_Rt) (S' : e_SS) (h : l_Wd ao tb Q r S') : l_aft X d K pc ll [.int 0, .ref ao] tb (l_Q Q) r S' := by
  match r, h with
  | .inl (some (.double x)), ⟨f, hf, hq⟩ =>
    show s_w X d K (pc + 3) ll [.double x, .int 0, .ref ao] S' (l_Q Q)
    refine w_dastR (n := 0) d2 hf ⟨by decide, rfl, by decide⟩ ?_
    exact l_end d3 ht d4 d5 hq
  | .inr E, ⟨n, hn, hq⟩ => exact ⟨n, hn, rfl, hq⟩
end l_s
