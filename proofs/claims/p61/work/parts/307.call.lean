/-! 2906: a wrapper's call: what it makes of answers and of exceptions (printed by wip/p61/mk6.py) -/
section l_rw
variable {X : e_XT} {d : Nat} {K : e_KT} {pc ix mi pl t j : Nat} {i : Instr} {ll : e_LL} {st rest As : List Value} {S S' : e_SS} {Q Q' : e_Rt → e_SS → Prop} {row : e_MT}
def l_ct (K : e_KT) (pc E : Nat) (v : Value) : Prop := ∃ pre suf : List (Nat × Nat × Nat × Nat), ∃ sp ep hp hq ct jj pl9 : Nat, E < 6 ∧ K.2.2.2.2 = pre ++ (sp, ep, hp, ct) :: suf ∧ covers ⟨sp, ep, hp, ct⟩ pc = true ∧ (ct, E, pl9) ∈ e_HK ∧ ct ≠ 0 ∧ (∀ z ∈ pre, z.2.2.2 ≠ 0 ∧ ∃ E' pl', E' < 6 ∧ E ≠ E' ∧ (z.2.2.2, E', pl') ∈ e_HK) ∧ ((∃ k : Fin 4, (k : Nat) = jj ∧ decode K.2.2.1 hp = .ok (.astore_n k, 1) ∧ hq = hp + 1) ∨ (decode K.2.2.1 hp = .ok (.astore jj, 2) ∧ hq = hp + 2)) ∧ jj < K.2.2.2.1 ∧ e_ctv K hq v
def l_aft (X : e_XT) (d : Nat) (K : e_KT) (pc : Nat) (ll : e_LL) (rest : List Value) (tb : List (Nat × Value)) (Q : e_Rt → e_SS → Prop) (r : e_Rt) (S : e_SS) : Prop := match r with
  | .inl v => s_w X d K (pc + 3) ll (v.toList ++ rest) S Q
  | .inr E => ∃ v, (E, v) ∈ tb ∧ Q (.inl (some v)) S
theorem w_callC {tb : List (Nat × Value)} (hd : decode K.2.2.1 pc = .ok (.invokevirtual ix, 3)) (hcl : e_cl2 K.1 ix = some (ix, mi, pl, 0)) (hrow : e_M[mi]? = some row) (hmi : mi < 1000) (hst : row.2.1.2 = false) (hn : As.length = row.2.1.1) (hni : row.1.1.name ≠ "<init>") (h21 : row.1.2 < 21) (hcat : (rest.map fun v => v.category).sum ≤ 8) (hT : (e_T t).1 = row.1.2) (hv : s_v S t j) (hK : K.1 = 21) (hct : ∀ E n, (E, n) ∈ tb → l_ct K pc E n)
    (hc : s_c X d mi (.ref (S.1.1 t j) :: As) S Q') (hq : ∀ r S', Q' r S' → l_aft X (d + 1) K pc ll rest tb Q r S') : s_w X (d + 1) K pc ll (As.reverse ++ .ref (S.1.1 t j) :: rest) S Q := fun h hs => by
  obtain ⟨r, h1, S1, a, b, c⟩ := hc h hs
  have k := hq r S1 a
  obtain ⟨q1, q2, q3, -, q5⟩ := hs.1.1 t j hv
  have hcf : e_cf K (.invokevirtual ix) ix row As (S.1.1 t j) (.ref (S.1.1 t j) :: As) (As.reverse ++ .ref (S.1.1 t j) :: rest) rest h := Or.inr (Or.inl ⟨rfl, hst, hni, rfl, rfl, Or.inl ⟨q2, q3.trans hT, h21⟩⟩)
  cases r with
  | inl v =>
    obtain ⟨r2, h2, S2, q, z, c2⟩ := k h1 b
    exact ⟨r2, h2, S2, q, z, e_J.call c hrow hcl hmi (fun z => absurd rfl z) hcf hn hcat hd c2⟩
  | inr E =>
    obtain ⟨n, hn9, q⟩ := k
    obtain ⟨pre, suf, sp, ep, hp, hq, ct, jj, pl9, e1, e2, e3, e4, e5, e6, e7, e8, e9⟩ := hct E n hn9
    exact ⟨_, h1, S1, q, b, e_J.catchV c hrow hcl hmi hni hcf hn hcat hd hK e1 e2 e3 e4 e5 e6 e7 e8 e9⟩
def l_Ri (tb : List (Nat × Value)) (Q : e_Rt → e_SS → Prop) (r : e_Rt) (S : e_SS) : Prop := match r with
  | .inl (some (.int x)) => Q (.inl (some (.int x))) S
  | .inr E => ∃ v, (E, v) ∈ tb ∧ Q (.inl (some v)) S
  | _ => False
def l_Rb (tb : List (Nat × Value)) (Q : e_Rt → e_SS → Prop) (r : e_Rt) (S : e_SS) : Prop := match r with
  | .inl (some (.int x)) => Q (.inl (some (.int (if x = 0 then 0 else 1)))) S
  | .inr E => ∃ v, (E, v) ∈ tb ∧ Q (.inl (some v)) S
  | _ => False
def l_Rf (tb : List (Nat × Value)) (Q : e_Rt → e_SS → Prop) (r : e_Rt) (S : e_SS) : Prop := match r with
  | .inl (some (.float x)) => Q (.inl (some (.float x))) S
  | .inr E => ∃ v, (E, v) ∈ tb ∧ Q (.inl (some v)) S
  | _ => False
def l_Rd (tb : List (Nat × Value)) (Q : e_Rt → e_SS → Prop) (r : e_Rt) (S : e_SS) : Prop := match r with
  | .inl (some (.double x)) => Q (.inl (some (.double x))) S
  | .inr E => ∃ v, (E, v) ∈ tb ∧ Q (.inl (some v)) S
  | _ => False
/-- how a wrapper goes on behind the call -/
abbrev l_Q (ty : FieldType) (Q : e_Rt → e_SS → Prop) : e_Rt → e_SS → Prop := fun r S' => e_rcr (some ty) r = true ∧ Q r S'
theorem l_cI {tb : List (Nat × Value)} (htb : ∀ E v, (E, v) ∈ tb → e_rcr (some .int) (.inl (some v)) = true) (d1 : decode K.2.2.1 (pc + 3) = .ok (.ireturn, 1)) (r : e_Rt) (S' : e_SS) (h : l_Ri tb Q r S') : l_aft X d K pc ll [] tb (l_Q .int Q) r S' := by
  unfold l_Ri at h
  split at h
  · exact w_ireturn d1 ⟨rfl, h⟩
  · obtain ⟨v, h1, h2⟩ := h
    exact ⟨v, h1, htb _ _ h1, h2⟩
  · cases h
theorem l_cB {tb : List (Nat × Value)} (htb : ∀ E v, (E, v) ∈ tb → e_rcr (some .int) (.inl (some v)) = true) (d0 : decode K.2.2.1 (pc + 3) = .ok (.ifCond .eq 7, 3)) (d1 : decode K.2.2.1 (pc + 6) = .ok (.iconst 1, 1)) (d2 : decode K.2.2.1 (pc + 7) = .ok (.goto 4, 3)) (d3 : decode K.2.2.1 (pc + 10) = .ok (.iconst 0, 1)) (d4 : decode K.2.2.1 (pc + 11) = .ok (.ireturn, 1)) (r : e_Rt) (S' : e_SS) (h : l_Rb tb Q r S') : l_aft X d K pc ll [] tb (l_Q .int Q) r S' := by
  unfold l_Rb at h
  split at h
  · rename_i x
    refine w_ifeq (t := pc + 10) d0 (by omega) (fun c => ?_) (fun c => ?_)
    · refine w_iconst (v := 0) d3 rfl ?_
      rw [if_pos c] at h
      exact w_ireturn d4 ⟨rfl, h⟩
    · refine w_iconst (v := 1) d1 rfl ?_
      refine w_goto (t := pc + 11) d2 (by omega) ?_
      rw [if_neg c] at h
      exact w_ireturn d4 ⟨rfl, h⟩
  · obtain ⟨v, h1, h2⟩ := h
    exact ⟨v, h1, htb _ _ h1, h2⟩
  · cases h
theorem l_cF {tb : List (Nat × Value)} (htb : ∀ E v, (E, v) ∈ tb → e_rcr (some .float) (.inl (some v)) = true) (d1 : decode K.2.2.1 (pc + 3) = .ok (.freturn, 1)) (r : e_Rt) (S' : e_SS) (h : l_Rf tb Q r S') : l_aft X d K pc ll [] tb (l_Q .float Q) r S' := by
  unfold l_Rf at h
  split at h
  · exact w_freturn d1 ⟨rfl, h⟩
  · obtain ⟨v, h1, h2⟩ := h
    exact ⟨v, h1, htb _ _ h1, h2⟩
  · cases h
theorem l_cD {tb : List (Nat × Value)} (htb : ∀ E v, (E, v) ∈ tb → e_rcr (some .double) (.inl (some v)) = true) (d1 : decode K.2.2.1 (pc + 3) = .ok (.dreturn, 1)) (r : e_Rt) (S' : e_SS) (h : l_Rd tb Q r S') : l_aft X d K pc ll [] tb (l_Q .double Q) r S' := by
  unfold l_Rd at h
  split at h
  · exact w_dreturn d1 ⟨rfl, h⟩
  · obtain ⟨v, h1, h2⟩ := h
    exact ⟨v, h1, htb _ _ h1, h2⟩
  · cases h
end l_rw
