/-! 22: natives, class objects, Object's constructor -/
def e_rowset (h : e_Hp) (a : Nat) (f : Nat → Value) : e_Hp := (h.1, h.2.1, fun k => if k = a then f else h.2.2 k)
def e_cpyv (f g : Nat → Value) (sp dp n : Nat) : Nat → Value := fun j => if dp ≤ j ∧ j < dp + n then f (sp + (j - dp)) else g j
def e_cpyh (h : e_Hp) (a0 sp a1 dp n : Nat) : e_Hp := e_rowset h a1 (e_cpyv (e_v h a0) (e_v h a1) sp dp n)
theorem e_cpy_map {α : Type} (F : Value → α) (f g : Nat → Value) (sp dp n : Nat) : (fun i => F (e_cpyv f g sp dp n i)) = va_cpy (fun i => F (f i)) (fun i => F (g i)) sp dp n := by
  funext j
  unfold e_cpyv va_cpy
  split <;> rfl
theorem e_natw : nativeFrameWords "java/lang/System" "arraycopy" 5 ≤ 60 := by decide
def e_gcl : MethodName := ⟨"java/lang/Object", "getClass", "()Ljava/lang/Class;"⟩
theorem e_N_ok : (e_w 76 (.instanceMethod Lib.objectInit) && (e_w 77 (.code Lib.objectInit ⟨#[0xb1]⟩ 1 none) && (e_w 276 (.static arraycopyName) && (e_w 277 (.native arraycopyName) && (e_w 47 (.initialized "java/lang/System") && (e_w 242 (.methodLink "java/util/Arrays" 86 e_gcl) && (e_w 1789 (.selects "[Ljava/lang/Object;" e_gcl e_gcl) && (e_w 243 (.instanceMethod e_gcl) && (e_w 265 (.native e_gcl) && e_w 269 (.classLink "java/util/Arrays" 110 "[Ljava/lang/Object;")))))))))) = true := by decide +kernel
section e_nt
variable {X : e_XT} {d : Nat} {K : e_KT} {pc ix pl ho a0 a1 : Nat} {ll : e_LL} {st rest : List Value} {h h' : e_Hp} {r : e_Rt} {b : Nat} {sp dp n : Int32}
theorem e_J.objinit (ho31 : K.1 < 33) (hcl : e_cl2 K.1 ix = some (ix, 1000, pl, 0)) (hcat : (rest.map fun v => v.category).sum ≤ 8) (hdg : decode K.2.2.1 pc = .ok (.invokespecial ix, 3)) (k : e_J X d K (pc + 3) ll rest h r h') : e_J X d K pc ll (.ref b :: rest) h r h' := by
  intro hw w
  obtain ⟨g, kk⟩ := k hw w.tail
  refine ⟨g, fun p l e R s m args below meth c H locs cells slots Q ad ls D cA ex A C hf hl hex hP hD hS hL hc hs hfin => ?_⟩
  have hN := e_N_ok
  simp only [Bool.and_eq_true] at hN
  obtain ⟨n1, n2, -⟩ := hN
  have h2 := (e_cl_ok ho31 hcl).2
  simp only [e_CLck, e_CLw, e_wg, if_true] at h2
  have hts := C.1.2.2.2.2.2.1
  have hcat' : 2 * (F0 m pc ls ((.ref b :: rest).map (e_rl ad))).monitorRoom + ((rest.map (e_rl ad)).map fun v => v.category).sum + 12 ≤ R.locals := by
    rw [e_cat_sum]; show 2 * 0 + _ + 12 ≤ _; omega
  exact W.objInit C.1.1 C.1.2.1 C.1.2.2.2.1 (hts _ (e_w_in h2)) (hts _ (e_w_in n1)) (hts _ (e_w_in n2)) rfl (show ls.size = c.maxLocals by rw [hL.2.1, C.2.2.1]) rfl hdg (by omega) hcat' (kk p l e R s m args below meth c H locs cells slots Q ad ls D cA ex A C hf hl hex hP hD hS hL hc hs hfin)
theorem e_rowset_v {h : e_Hp} {a : Nat} {f : Nat → Value} : e_v (e_rowset h a f) a = f := by unfold e_v e_rowset; simp only [if_true]
theorem e_rowset_ne {h : e_Hp} {a k : Nat} {f : Nat → Value} (hk : k ≠ a) : e_v (e_rowset h a f) k = e_v h k := by unfold e_v e_rowset; simp only [if_neg hk]
theorem e_wd_rowset {cA : Nat → ClassId} {ad : Nat → Nat} {f : Nat → Value} {a : Nat} (ha : a < e_n h) {q : Nat × va_E} (hq : e_ent cA ad (e_rowset h a f) a = q) : e_wd cA ad (e_rowset h a f) = (e_wd cA ad h).set a q := by
  apply List.ext_getElem?
  intro k
  rw [List.getElem?_set]
  by_cases hk : k < e_n h
  · rw [e_wd_get (h := e_rowset h a f) hk]
    by_cases e : a = k
    · subst e; rw [if_pos rfl, if_pos (by rw [e_wd_len]; exact ha), hq]
    · rw [if_neg e, e_wd_get hk]
      unfold e_ent
      rw [e_rowset_ne (fun x => e x.symm)]; rfl
  · have h1 : (e_wd cA ad (e_rowset h a f))[k]? = none := List.getElem?_eq_none (by rw [e_wd_len]; exact Nat.le_of_not_lt hk)
    have e : ¬ a = k := fun e => hk (by rw [← e]; exact ha)
    rw [h1, if_neg e]
    exact (List.getElem?_eq_none (by rw [e_wd_len]; exact Nat.le_of_not_lt hk)).symm
theorem e_wh.cpy (hw : e_wh h) (ha0 : a0 < e_n h) (i j m : Nat) : e_wh (e_cpyh h a0 i a1 j m) := by
  intro k x hk
  have hk : k < e_n h := hk
  show e_okv (e_n h) (e_v (e_cpyh h a0 i a1 j m) k x)
  unfold e_cpyh
  by_cases e : k = a1
  · subst e
    rw [e_rowset_v]
    unfold e_cpyv
    split
    · exact hw a0 _ ha0
    · exact hw k _ hk
  · rw [e_rowset_ne e]; exact hw k x hk
/-- System.arraycopy over rows of ints, of longs, of references -/
theorem e_J.copy {kd ci : Nat} (ho31 : K.1 < 33) (hcl : e_cl2 K.1 ix = some (ix, 1001, pl, 0)) (hcat : (rest.map fun v => v.category).sum ≤ 8) (hdg : decode K.2.2.1 pc = .ok (.invokestatic ix, 3)) (h0 : a0 < e_n h) (h1 : a1 < e_n h) (hk0 : e_kd h a0 = kd) (hk1 : e_kd h a1 = kd) (hsp : ¬ sp < 0) (hdp : ¬ dp < 0) (hn : ¬ n < 0) (hs0 : sp.toNatClampNeg + n.toNatClampNeg ≤ e_ln h a0) (hs1 : dp.toNatClampNeg + n.toNatClampNeg ≤ e_ln h a1)
    (hkd : kd = 100 ∨ kd = 103 ∨ (kd = 105 ∧ ci < 21 ∧ e_ob ci = true ∧ ∀ i, i < n.toNatClampNeg → ∀ y, e_toO (e_v h a0 (sp.toNatClampNeg + i)) = some y → y < e_n h ∧ e_kd h y = ci))
    (k : e_J X d K (pc + 3) ll rest (e_cpyh h a0 sp.toNatClampNeg a1 dp.toNatClampNeg n.toNatClampNeg) r h') : e_J X d K pc ll (.int n :: .int dp :: .ref a1 :: .int sp :: .ref a0 :: rest) h r h' := by
  intro hw w
  obtain ⟨⟨g1, g2, g3⟩, kk⟩ := k (hw.cpy h0 _ _ _) w.tail.tail.tail.tail.tail
  refine ⟨⟨g1, g2, g3⟩, fun p l e R s m args below meth c H locs cells slots Q ad ls D cA ex A C hf hl hex hP hD hS hL hc hs hfin => ?_⟩
  have hN := e_N_ok
  simp only [Bool.and_eq_true] at hN
  obtain ⟨-, -, n3, n4, n5, -⟩ := hN
  have h2 := (e_cl_ok ho31 hcl).2
  simp only [e_CLck, e_CLw, e_wg, if_true, if_neg (show ¬ (1001 : Nat) = 1000 by decide)] at h2
  have hts := C.1.2.2.2.2.2.1
  have hnw := e_natw
  have hcat' : ((rest.map (e_rl ad)).map fun v => v.category).sum + (nativeFrameWords "java/lang/System" "arraycopy" 5 + 11) ≤ R.locals := by
    rw [e_cat_sum]; omega
  have fin : ∀ (q : Nat × va_E), e_ent cA ad (e_cpyh h a0 sp.toNatClampNeg a1 dp.toNatClampNeg n.toNatClampNeg) a1 = q → ∀ (H1 : Heap) (locs1 : List Loc), va_P D vwCl ((e_wd cA ad h).set a1 q) H1 → va_D A ((e_wd cA ad h).set a1 q) → va_S A s.heap H1 locs1 → W p l e R s m args below meth c H1 locs1 cells slots Q (F0 m (pc + 3) ls (rest.map (e_rl ad))) := fun q hq H1 locs1 a b c9 => by
    have e9 := e_wd_rowset (h := h) h1 hq
    exact kk p l e R s m args below meth c H1 locs1 cells slots Q ad ls D cA ex A C hf hl hex (by unfold e_cpyh; rw [e9]; exact a) (by unfold e_cpyh; rw [e9]; exact b) c9 hL hc hs hfin
  have hml : c.maxLocals = ls.size := by rw [hL.2.1, C.2.2.1]
  rcases hkd with rfl | rfl | ⟨rfl, hci, hob, hel⟩
  · refine va_copyi (ty := .int) (f := fun i => e_toI (e_v h a0 i)) (g := fun i => e_toI (e_v h a1 i)) C.1.1 C.1.2.1 hml C.1.2.2.2.1 (hts _ (e_w_in h2)) (hts _ (e_w_in n4)) (hts _ (e_w_in n3)) (hts _ (e_w_in n5)) C.2.1.1.1 hP hD hS a0 a1 0 0 ((e_wd_get h0).trans (congrArg some (e_ent_a hk0 (by decide)))) ((e_wd_get h1).trans (congrArg some (e_ent_a hk1 (by decide)))) rfl rfl rfl hsp hdp hn hs0 hs1 (fun _ _ => rfl) (by omega) hcat' hdg (fin _ ?_)
    rw [e_ent_a (show e_kd (e_cpyh h a0 _ a1 _ _) a1 = 100 from hk1) (by decide)]
    unfold e_cpyh
    rw [e_rowset_v]
    show (ad a1, Sum.inl (cA 100, e_ln h a1, Sum.inl (fun i => e_toI (e_cpyv _ _ _ _ _ i)))) = _
    rw [e_cpy_map e_toI]
  · refine va_copyl (ty := .long) (f := fun i => e_toJ (e_v h a0 i)) (g := fun i => e_toJ (e_v h a1 i)) C.1.1 C.1.2.1 hml C.1.2.2.2.1 (hts _ (e_w_in h2)) (hts _ (e_w_in n4)) (hts _ (e_w_in n3)) (hts _ (e_w_in n5)) C.2.1.1.1 hP hD hS a0 a1 3 3 ((e_wd_get h0).trans (congrArg some (e_ent_a hk0 (by decide)))) ((e_wd_get h1).trans (congrArg some (e_ent_a hk1 (by decide)))) rfl rfl rfl hsp hdp hn hs0 hs1 (fun _ _ => rfl) (by omega) hcat' hdg (fin _ ?_)
    rw [e_ent_a (show e_kd (e_cpyh h a0 _ a1 _ _) a1 = 103 from hk1) (by decide)]
    unfold e_cpyh
    rw [e_rowset_v]
    show (ad a1, Sum.inl (cA 103, e_ln h a1, Sum.inr (Sum.inl (fun i => e_toJ (e_cpyv _ _ _ _ _ i))))) = _
    rw [e_cpy_map e_toJ]
  · have h8 := List.all_eq_true.mp e_NC_ok _ (List.mem_range.mpr hci)
    have h9 : Cond.castable (e_cn ci) "java/lang/Object" ∈ e_nt := by
      unfold e_ob at hob
      split at hob
      · rename_i q hq
        rw [hq] at h8
        exact e_wn_in (((Bool.or_eq_true _ _).mp h8).resolve_left (fun h => of_decide_eq_true hob (of_decide_eq_true h)))
      · cases hob
    refine va_copyq (C := e_cn ci) (E0 := "java/lang/Object") (E1 := "java/lang/Object") (f := fun i => (e_toO (e_v h a0 i)).map ad) (g := fun i => (e_toO (e_v h a1 i)).map ad) C.1.1 C.1.2.1 hml C.1.2.2.2.1 (hts _ (e_w_in h2)) (hts _ (e_w_in n4)) (hts _ (e_w_in n3)) (hts _ (e_w_in n5)) C.2.1.1.1 hP hD hS a0 a1 5 5 ((e_wd_get h0).trans (congrArg some (e_ent_a hk0 (by decide)))) ((e_wd_get h1).trans (congrArg some (e_ent_a hk1 (by decide)))) rfl rfl hsp hdp hn hs0 hs1 (fun i hi y hy => ?_) (fun comp c0 q1 q2 => ?_) (by omega) hcat' hdg (fin _ ?_)
    · cases ho : e_toO (e_v h a0 (sp.toNatClampNeg + i)) with
      | none => rw [ho] at hy; cases hy
      | some y0 =>
        rw [ho] at hy
        cases hy
        obtain ⟨y1, y2⟩ := hel i hi y0 ho
        exact e_recv C.2.1.1.1 hP y1 y2 hci
    · obtain ⟨c1, c2, z1, z2, z3⟩ := Cond.castable_spec ((C.2.1.1.2.1 _ h9).use (A := args) (e_nt_on h9))
      cases Option.some.inj (z1.symm.trans q2)
      cases Option.some.inj (z2.symm.trans q1)
      exact z3
    · rw [e_ent_a (show e_kd (e_cpyh h a0 _ a1 _ _) a1 = 105 from hk1) (by decide)]
      unfold e_cpyh
      rw [e_rowset_v]
      show (ad a1, Sum.inl (cA 105, e_ln h a1, Sum.inr (Sum.inr (Sum.inr (Sum.inr (fun i => (e_toO (e_cpyv _ _ _ _ _ i)).map ad)))))) = _
      rw [e_cpy_map (fun v => (e_toO v).map ad)]
/-- getClass() of an Object[], the class constant Object[], and their comparison -/
theorem e_J.getC (hK : K.1 = 25) (ha : b < e_n h) (hk : e_kd h b = 105) (hcat : (rest.map fun v => v.category).sum ≤ 8) (hdg : decode K.2.2.1 pc = .ok (.invokevirtual 86, 3)) (k : e_J X d K (pc + 3) ll (.ref (e_xb + 9) :: rest) h r h') : e_J X d K pc ll (.ref b :: rest) h r h' := by
  intro hw w
  obtain ⟨g, kk⟩ := k hw (w.tail.cons (fun q hq => by cases hq; exact Or.inr (Nat.le_add_right _ _)))
  refine ⟨g, fun p l e R s m args below meth c H locs cells slots Q ad ls D cA ex A C hf hl hex hP hD hS hL hc hs hfin => ?_⟩
  have hN := e_N_ok
  simp only [Bool.and_eq_true] at hN
  obtain ⟨-, -, -, -, -, n6, n7, n8, n9, -⟩ := hN
  have hts := C.1.2.2.2.2.2.1
  have hown : s.vm.findClass "java/util/Arrays" = some m.cls := by have := C.1.2.2.2.1; rw [hK] at this; exact this
  have hrc : ∃ cell : Cell, H[ad b]? = some cell ∧ cell.vm.isStatics = false ∧ s.vm.findClass "[Ljava/lang/Object;" = some cell.cls := by
    have hra := (C.2.1.1.1.2 5 (cA 105, .object "java/lang/Object") rfl).2
    have z1 := hP b _ ((e_wd_get ha).trans (congrArg some (e_ent_a hk (by decide))))
    exact ⟨_, z1, rfl, va_nmO hra rfl⟩
  have k9 := kk p l e R s m args below meth c H locs cells slots Q ad ls D cA ex A C hf hl hex hP hD hS hL hc hs hfin
  have e9 : e_rl ad (.ref (e_xb + 9)) = .ref (ex 9) := congrArg Value.ref (hex 9 (by decide))
  rw [List.map_cons, e9] at k9
  exact va_getC (C := "[Ljava/lang/Object;") C.1.1 C.1.2.1 (by rw [hL.2.1, C.2.2.1]) hown (hts _ (e_w_in n6)) C.2.1.2.2.2.1.use (hts _ (e_w_in n7)) (hts _ (e_w_in n8)) (hts _ (e_w_in n9)) C.2.1.2.2.1 hrc (by omega) (by rw [e_cat_sum]; omega) hdg k9
theorem e_J.ldcM (hK : K.1 = 25) (hdg : decode K.2.2.1 pc = .ok (.ldc 110, 2)) (k : e_J X d K (pc + 2) ll (.ref (e_xb + 9) :: rest) h r h') : e_J X d K pc ll rest h r h' := by
  intro hw w
  obtain ⟨g, kk⟩ := k hw (w.cons (fun q hq => by cases hq; exact Or.inr (Nat.le_add_right _ _)))
  refine ⟨g, fun p l e R s m args below meth c H locs cells slots Q ad ls D cA ex A C hf hl hex hP hD hS hL hc hs hfin => ?_⟩
  have hN := e_N_ok
  simp only [Bool.and_eq_true] at hN
  obtain ⟨-, -, -, -, -, -, -, -, -, n10⟩ := hN
  have hown : s.vm.findClass "java/util/Arrays" = some m.cls := by have := C.1.2.2.2.1; rw [hK] at this; exact this
  have k9 := kk p l e R s m args below meth c H locs cells slots Q ad ls D cA ex A C hf hl hex hP hD hS hL hc hs hfin
  have e9 : e_rl ad (.ref (e_xb + 9)) = .ref (ex 9) := congrArg Value.ref (hex 9 (by decide))
  rw [List.map_cons, e9] at k9
  exact va_ldcM C.1.1 C.1.2.1 hown (C.1.2.2.2.2.2.1 _ (e_w_in n10)) C.2.1.2.2.1 hdg k9
/-- the same reference twice: 'if_acmpne' goes on -/
theorem e_J.acmpne {off : Int} {t : Nat} (ht : (pc : Int) + off = (t : Int)) (hdg : decode K.2.2.1 pc = .ok (.if_acmp .ne off, 3)) (k : e_J X d K (pc + 3) ll rest h r h') : e_J X d K pc ll (.ref b :: .ref b :: rest) h r h' := by
  intro hw w
  obtain ⟨g, kk⟩ := k hw w.tail.tail
  refine ⟨g, fun p l e R s m args below meth c H locs cells slots Q ad ls D cA ex A C hf hl hex hP hD hS hL hc hs hfin => ?_⟩
  exact lv_acmp_ne (rx := some (ad b)) (ry := some (ad b)) C.1.1 C.1.2.1 hdg ht (fun z => absurd rfl z) (fun _ => kk p l e R s m args below meth c H locs cells slots Q ad ls D cA ex A C hf hl hex hP hD hS hL hc hs hfin)
end e_nt
