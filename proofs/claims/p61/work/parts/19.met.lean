/-! 19: a method's contract, out of the judgement at its entry -/
def e_slx (args : List Value) : e_LL := args.flatMap (fun v => if v.category = 2 then [some v, none] else [some v])
def e_ent0 (args : List Value) (n : Nat) : e_LL := e_slx args ++ List.replicate (n - (e_slx args).length) none
def e_rc (ret : Option FieldType) (v : Option Value) : Bool := match ret, v with
  | some .int, some (.int _) => true
  | some .boolean, some (.int x) => decide (x = 0 ∨ x = 1)
  | some .char, some (.int x) => decide (vp_nar .char x = x)
  | some .long, some (.long _) => true
  | some .float, some (.float _) => true
  | some .double, some (.double _) => true
  | some (.object _), some (.ref _) => true
  | some (.object _), some .null => true
  | some (.array _), some (.ref _) => true
  | some (.array _), some .null => true
  | none, none => true
  | _, _ => false
theorem e_rc_int {ret : Option FieldType} {x : Int32} (h : e_rc ret (some (.int x)) = true) : ∃ ty, ret = some ty ∧ narrow ty (.int x) = .int x := by
  match ret, h with
  | none, h => cases h
  | some .int, h => exact ⟨_, rfl, rfl⟩
  | some .boolean, h => exact ⟨_, rfl, (e_ck_nar (ad := id) (v := .int x) (ty := .boolean) h).1⟩
  | some .char, h => exact ⟨_, rfl, (e_ck_nar (ad := id) (v := .int x) (ty := .char) h).1⟩
  | some .long, h => cases h
  | some .float, h => cases h
  | some .double, h => cases h
  | some .byte, h => cases h
  | some .short, h => cases h
  | some (.object _), h => cases h
  | some (.array _), h => cases h
theorem e_rc_long {ret : Option FieldType} {x : Int64} (h : e_rc ret (some (.long x)) = true) : ret = some .long := by
  match ret, h with
  | none, h => cases h
  | some ty, h => cases ty <;> first | rfl | cases h
theorem e_rc_float {ret : Option FieldType} {x : UInt32} (h : e_rc ret (some (.float x)) = true) : ret = some .float := by
  match ret, h with
  | none, h => cases h
  | some ty, h => cases ty <;> first | rfl | cases h
theorem e_rc_double {ret : Option FieldType} {x : UInt64} (h : e_rc ret (some (.double x)) = true) : ret = some .double := by
  match ret, h with
  | none, h => cases h
  | some ty, h => cases ty <;> first | rfl | cases h
theorem e_rc_ref {ret : Option FieldType} {v : Value} (hv : v = .null ∨ ∃ a, v = .ref a) (h : e_rc ret (some v) = true) : ∃ ty, ret = some ty ∧ ((∃ n, ty = .object n) ∨ ∃ t, ty = .array t) := by
  rcases hv with rfl | ⟨a, rfl⟩
  all_goals
    match ret, h with
    | none, h => cases h
    | some (.object n), h => exact ⟨_, rfl, Or.inl ⟨_, rfl⟩⟩
    | some (.array n), h => exact ⟨_, rfl, Or.inr ⟨_, rfl⟩⟩
    | some .int, h => cases h
    | some .boolean, h => cases h
    | some .char, h => cases h
    | some .byte, h => cases h
    | some .short, h => cases h
    | some .long, h => cases h
    | some .float, h => cases h
    | some .double, h => cases h
theorem e_rc_none {ret : Option FieldType} (h : e_rc ret none = true) : ret = none := by
  match ret, h with
  | none, h => rfl
  | some ty, h => cases ty <;> cases h
def e_rcr (ret : Option FieldType) (r : e_Rt) : Bool := match r with
  | .inl v => e_rc ret v
  | .inr _ => true
def e_rmm (d : Nat) (h h' : e_Hp) : Room := { frames := d + 8, cells := e_c h' - e_c h, slots := e_s h' - e_s h, locals := 64 * d + 200 }
def e_Pc (X : e_XT) (D : va_G) (cA : Nat → ClassId) (ex : Nat → Nat) (A : Nat → Prop) (ad : Nat → Nat) (args : List Value) (h : e_Hp) : Array Value → State → Prop := fun a U => a = (args.map (e_rl ad)).toArray ∧ va_P D vwCl (e_wd cA ad h) U.heap ∧ va_D A (e_wd cA ad h) ∧ e_Sg D cA X ex A U
def e_Qc (D : va_G) (cA : Nat → ClassId) (A : Nat → Prop) (ad : Nat → Nat) (n : Nat) (r : e_Rt) (h' : e_Hp) : Array Value → State → Outcome → State → Prop := fun _ st o t => match r with
  | .inl v => ∃ ad' : Nat → Nat, o = .returned (v.map (e_rl ad')) ∧ e_ag n ad ad' ∧ va_P D vwCl (e_wd cA ad' h') t.heap ∧ va_D A (e_wd cA ad' h') ∧ va_F A st t
  | .inr _ => False
def e_XC (D : va_G) (cA : Nat → ClassId) (A : Nat → Prop) (ad : Nat → Nat) (n : Nat) (r : e_Rt) (h' : e_Hp) : String → State → State → Prop := fun E' st t => match r with
  | .inl _ => False
  | .inr E => E' = e_en E ∧ ∃ ad' : Nat → Nat, e_ag n ad ad' ∧ va_P D vwCl (e_wd cA ad' h') t.heap ∧ va_D A (e_wd cA ad' h') ∧ va_F A st t
/-- the contract of the method at place mi of the table -/
def e_Mt (X : e_XT) (d mi : Nat) (args : List Value) (h : e_Hp) (r : e_Rt) (h' : e_Hp) : Prop :=
  ∃ (row : e_MT) (w : Cond), e_M[mi]? = some row ∧ e_tb row.2.2.1 = some w ∧ (e_wh h → (∀ v ∈ args, e_okv (e_n h) v) → (e_wh h' ∧ e_grow h h' ∧ e_okr (e_n h') r) ∧
    ∀ (l : Launch) (D : va_G) (cA : Nat → ClassId) (ex : Nat → Nat) (A : Nat → Prop) (ad : Nat → Nat), l.stackTraces = false → (∀ x, x < 22 → ad (e_xb + x) = ex x) →
      vx_Met l row.1.1 (w :: e_tt) (e_rmm d h h') (e_Pc X D cA ex A ad args h) (e_Qc D cA A ad (e_n h) r h') (e_XC D cA A ad (e_n h) r h') (e_c h' - e_c h) (e_s h' - e_s h) A)
/-- what the table's check says of a row -/
def e_Rw (row : e_MT) (w : Cond) (bytes : ByteArray) (nL : Nat) (ret : Option FieldType) (hh : List (Nat × Nat × Nat × Nat)) : Prop :=
  ((w = .code row.1.1 bytes nL ret ∧ hh = []) ∨ w = .codeWith row.1.1 bytes nL ret hh) ∧ w ∈ e_tt ∧ nL ≤ 45 ∧ (if row.2.1.2 = true then Cond.static row.1.1 else .instanceMethod row.1.1) ∈ e_tt ∧ Cond.initialized row.1.1.cls ∈ e_tt ∧
  (row.2.1.2 = true ∨ row.1.1.name = "<init>" ∨ Cond.selects row.1.1.cls row.1.1 row.1.1 ∈ e_tt) ∧ row.1.1.cls = e_cn row.1.2 ∧ (row.1.1.cls ≠ "java/lang/invoke/MethodHandle" ∧ row.1.1.cls ≠ "java/lang/invoke/VarHandle") ∧
  (parseMethodDescriptor row.1.1.desc).map (fun d => d.parameters.length) = some row.2.1.1 ∧ plainFor row.1.1 = true ∧ row.1.2 < 33
theorem e_Rw.of {mi : Nat} {row : e_MT} {w : Cond} {y : MethodName} {bytes : ByteArray} {nL : Nat} {ret : Option FieldType} {hh : List (Nat × Nat × Nat × Nat)} (h1 : e_M[mi]? = some row) (h2 : e_tb row.2.2.1 = some w) (h3 : e_cw (some w) = some (y, bytes, nL, ret, hh)) : e_Rw row w bytes nL ret hh := by
  have hm := List.mem_of_getElem? h1
  have h := e_M_ok row hm
  have ho := List.all_eq_true.mp e_M_own row hm
  unfold e_Mck at h
  rw [h2, h3] at h
  simp only [Bool.and_eq_true, Bool.or_eq_true] at h
  obtain ⟨⟨a1, a2⟩, a3, a4, a5, a6, a7, a8, a9⟩ := h
  have hy := of_decide_eq_true a1
  have hwg : ((w = .code row.1.1 bytes nL ret ∧ hh = []) ∨ w = .codeWith row.1.1 bytes nL ret hh) ∧ goodWord w = true := by
    unfold e_cw at h3
    split at h3
    · rename_i e
      cases h3
      cases Option.some.inj e
      subst hy
      exact ⟨Or.inl ⟨rfl, rfl⟩, e_good_code _ _ _ _⟩
    · rename_i e
      cases h3
      cases Option.some.inj e
      subst hy
      exact ⟨Or.inr rfl, e_good_codeW _ _ _ _ _⟩
    · cases h3
  refine ⟨hwg.1, List.mem_filter.mpr ⟨e_tb_in h2, hwg.2⟩, of_decide_eq_true a2, e_w_in a3, e_w_in a4, ?_, of_decide_eq_true a6, of_decide_eq_true a7, of_decide_eq_true a8, a9, of_decide_eq_true ho⟩
  rcases a5 with (a5 | a5) | a5
  · exact Or.inl a5
  · exact Or.inr (Or.inl (of_decide_eq_true a5))
  · exact Or.inr (Or.inr (e_w_in a5))
theorem e_slx_args {ad : Nat → Nat} : ∀ (args : List Value) (k i : Nat) (v : Value), (e_slx args)[i]? = some (some v) → (k + i, e_rl ad v) ∈ lv_args k (args.map (e_rl ad))
  | [], k, i, v, h => by unfold e_slx at h; rw [List.flatMap_nil] at h; simp at h
  | a :: t, k, i, v, h => by
    have e : e_slx (a :: t) = (if a.category = 2 then [some a, none] else [some a]) ++ e_slx t := by unfold e_slx; rw [List.flatMap_cons]
    rw [e] at h
    rw [List.map_cons]
    unfold lv_args
    rw [e_rl_cat]
    by_cases c : a.category = 2
    · rw [if_pos c] at h ⊢
      match i, h with
      | 0, h => cases h; exact List.mem_cons_self
      | 1, h => simp at h
      | i + 2, h =>
        have h9 : (e_slx t)[i]? = some (some v) := h
        have := e_slx_args (ad := ad) t (k + 2) i v h9
        rw [show k + 2 + i = k + (i + 2) by omega] at this
        exact List.mem_cons_of_mem _ this
    · rw [if_neg c] at h ⊢
      match i, h with
      | 0, h => cases h; exact List.mem_cons_self
      | i + 1, h =>
        have h9 : (e_slx t)[i]? = some (some v) := h
        have := e_slx_args (ad := ad) t (k + 1) i v h9
        rw [show k + 1 + i = k + (i + 1) by omega] at this
        exact List.mem_cons_of_mem _ this
theorem e_ent0_ld {args : List Value} {n i : Nat} {v : Value} (h : e_ld (e_ent0 args n) i = some v) : (e_slx args)[i]? = some (some v) := by
  unfold e_ld e_ent0 at h
  by_cases c : i < (e_slx args).length
  · rw [List.getElem?_append_left c] at h
    cases h9 : (e_slx args)[i]? with
    | none => rw [h9] at h; cases h
    | some q => rw [h9] at h; cases q with
      | none => cases h
      | some q => cases h; rfl
  · rw [List.getElem?_append_right (by omega), List.getElem?_replicate] at h
    split at h <;> cases h
theorem e_slx_len {ad : Nat → Nat} (args : List Value) : (lg_sl (args.map (e_rl ad))).length = (e_slx args).length := by
  induction args with
  | nil => rfl
  | cons a t ih =>
    unfold lg_sl e_slx at *
    rw [List.map_cons, List.flatMap_cons, List.flatMap_cons, List.length_append, List.length_append, ih, e_rl_cat]
    split <;> rfl
theorem e_LH.ent {ad : Nat → Nat} {args : List Value} {n : Nat} (h : (e_slx args).length ≤ n) : e_LH ad ((lg_sl (args.map (e_rl ad)) ++ List.replicate (n - (lg_sl (args.map (e_rl ad))).length) Slot.unset).toArray) n (e_ent0 args n) := by
  obtain ⟨h1, h2, h3⟩ := lv_entry (args.map (e_rl ad)) (n := n) (by rw [e_slx_len]; exact h)
  refine ⟨h2, h1, ?_, fun i v hv => ?_⟩
  · unfold e_ent0; rw [List.length_append, List.length_replicate]; omega
  · have := h3 _ (e_slx_args (ad := ad) args 0 i v (e_ent0_ld hv))
    rw [Nat.zero_add] at this
    exact this
theorem e_slx_mem {args : List Value} {v : Value} (h : some v ∈ e_slx args) : v ∈ args := by
  unfold e_slx at h
  obtain ⟨a, ha, hv⟩ := List.mem_flatMap.mp h
  split at hv
  · rcases List.mem_cons.mp hv with e | hv
    · cases e; exact ha
    · rcases List.mem_cons.mp hv with e | hv
      · cases e
      · cases hv
  · rcases List.mem_cons.mp hv with e | hv
    · cases e; exact ha
    · cases hv
section e_mt
variable {X : e_XT} {d mi : Nat} {args : List Value} {h h' : e_Hp} {r : e_Rt}
theorem e_Mt.of {row : e_MT} {w : Cond} {y : MethodName} {bytes : ByteArray} {nL : Nat} {ret : Option FieldType} {hh : List (Nat × Nat × Nat × Nat)} {ini : Bool} (h1 : e_M[mi]? = some row) (h2 : e_tb row.2.2.1 = some w) (h3 : e_cw (some w) = some (y, bytes, nL, ret, hh)) (hini : ini = true → row.1.1.name = "<init>") (hlen : (e_slx args).length ≤ nL) (hret : e_rcr ret r = true)
    (J : e_J X d (row.1.2, ini, bytes, nL, hh) 0 (e_ent0 args nL) [] h r h') : e_Mt X d mi args h r h' := by
  have hR := e_Rw.of h1 h2 h3
  refine ⟨row, w, h1, h2, fun hwh hok => ?_⟩
  have hwf : e_wfs (e_n h) (e_ent0 args nL) [] := ⟨fun _ hv => (by cases hv), fun j v hv => hok v (e_slx_mem (List.mem_of_getElem? (e_ent0_ld hv)))⟩
  obtain ⟨g, b⟩ := J hwh hwf
  refine ⟨g, fun l D cA ex A ad hst hex => ?_⟩
  obtain ⟨hw, hwt, hn45, hsi, hit, hsel, hcls, hmh, hpar, hpl, h31⟩ := hR
  have hatoms : ∀ {s : State} {args' : Array Value}, (headSpec (w :: e_tt) (e_rmm d h h')).pre.before args' s = true → ∀ w' ∈ w :: e_tt, w'.before args' s = true := fun hp => atoms_spec (ws := w :: e_tt) hp
  refine MetFree.of_bodySF (code := bytes) (maxLocals := nL) (ret := ret) hpl ?_ ?_
  · intro args' s m hp hn
    have hq := hatoms hp w List.mem_cons_self
    rcases hw with ⟨rfl, -⟩ | rfl
    · obtain ⟨meth, c, q1, q2, q3, q4, q5, q6, -, -⟩ := Cond.code_spec hn hq
      exact ⟨meth, c, q1, q2, q3, q4, q5, q6⟩
    · obtain ⟨m9, meth, c, hn9, q1, q2, q3, q4, -, q5, q6, -⟩ := Cond.codeWith_spec hq
      cases hn.symm.trans hn9
      exact ⟨meth, c, q1, q2, q3, q4, q5, q6⟩
  · intro p e s m args' below meth c s₁ B hml hP _
    obtain ⟨rfl, hP, hD, hSg⟩ := hP
    have hh0 : s₁.heap = s.heap := by rw [B.state]; rfl
    have hts := hatoms B.pre
    have htab : c.exceptionTable.toList = tableOf hh := by
      have hq := hts w List.mem_cons_self
      rcases hw with ⟨rfl, rfl⟩ | rfl
      · obtain ⟨meth9, c9, q1, q2, -, -, -, -, q7, -⟩ := Cond.code_spec B.named hq
        cases Option.some.inj (q1.symm.trans B.method)
        cases Option.some.inj (q2.symm.trans (Stand.of_body B).code)
        rw [Array.isEmpty_iff.mp q7]; rfl
      · exact vx_table (x := row.1.1) (S := headSpec (Cond.codeWith row.1.1 bytes nL ret hh :: e_tt) (e_rmm d h h')) B hq
    have hown : s.vm.findClass (e_cn row.1.2) = some m.cls := by rw [← hcls]; exact findClass_of_methodNamed B.named
    have C : e_Cf (row.1.2, ini, bytes, nL, hh) D cA X ex A p l s m (args.map (e_rl ad)).toArray meth c := ⟨⟨B.exec, B.bytes, h31, hown, fun hi => (name_of_methodNamed B.named B.method).1.trans (hini hi), fun w' hw' => hts w' (List.mem_cons_of_mem _ hw'), hSg.1⟩, hSg, hml, B.notSynchronized, htab, hst⟩
    have K := b p l e (e_rmm d h h') s m (args.map (e_rl ad)).toArray below meth c s.heap [] 0 0 (vx_MQ below (e_Qc D cA A ad (e_n h) r h') (e_XC D cA A ad (e_n h) r h') (args.map (e_rl ad)).toArray s (e_c h' - e_c h) (e_s h' - e_s h) A) ad _ D cA ex A C (Nat.le_refl _) (Nat.le_refl _) hex hP hD va_S.rf (e_LH.ent hlen) (by rw [Nat.zero_add]; exact Nat.le_refl _) (by rw [Nat.zero_add]; exact Nat.le_refl _) ?_
    · rw [List.map_nil] at K
      obtain ⟨t, a1, o, b1, b2, b3⟩ := K s₁ hh0 (Stand.of_body B)
      rw [← lg_entry_eq] at a1
      exact ⟨t, o, a1, b1, b2, b3⟩
    · rw [Nat.zero_add, Nat.zero_add]
      cases r with
      | inr E => exact ⟨_, _, _, _, rfl, Nat.le_refl _, Nat.le_refl _, fun ad' t q1 q2 q3 q4 q5 => ⟨rfl, ad', q1, q3, q4, q5⟩⟩
      | inl v =>
        intro ad' H' locs' ls' pc' i hdg hi hag hP' hD' hS' hsz
        refine vx_ret ?_
        have hQ : ∀ t : State, t.heap = H' → s.WarmedH t.vm → e_Qc D cA A ad (e_n h) (.inl v) h' (args.map (e_rl ad)).toArray s (.returned (v.map (e_rl ad'))) t := fun t ht hW => ⟨ad', rfl, hag, by rw [ht]; exact hP', hD', hS'.F ht⟩
        have hrt : meth.sig.returnType = ret := B.returns
        have hlk : meth.locks = false := B.notSynchronized
        have hret : e_rc ret v = true := hret
        unfold e_ri at hi
        split at hi
        · obtain ⟨ty, rfl, h9⟩ := e_rc_int hret
          exact W.zret (ty := ty) B.exec B.bytes hrt h9 hQ hS'.2.2 hdg hlk
        · cases e_rc_long hret
          exact W.lret B.exec B.bytes hrt hQ hS'.2.2 hdg hlk
        · cases e_rc_float hret
          exact W.fret B.exec B.bytes hrt hQ hS'.2.2 hdg hlk
        · cases e_rc_double hret
          exact W.dret B.exec B.bytes hrt hQ hS'.2.2 hdg hlk
        · obtain ⟨ty, rfl, h9⟩ := e_rc_ref (Or.inr ⟨_, rfl⟩) hret
          exact W.aret B.exec B.bytes hrt h9 (Or.inr ⟨_, rfl⟩) hQ hS'.2.2 hdg hlk
        · obtain ⟨ty, rfl, h9⟩ := e_rc_ref (Or.inl rfl) hret
          exact W.aret B.exec B.bytes hrt h9 (Or.inl rfl) hQ hS'.2.2 hdg hlk
        · cases e_rc_none hret
          exact W.vret B.exec B.bytes hrt hQ hS'.2.2 hdg hlk
        · cases hi
end e_mt
