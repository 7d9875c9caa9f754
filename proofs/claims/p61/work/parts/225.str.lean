/-! 225: text constants, statics of the text classes, constants of doubles (printed by wip/p61/mk4.py) -/
theorem e_S_ok : (e_w 1799 (.fieldLink "java/lang/String" 9 "java/lang/String" "value" "[B") && (e_w 1798 (.fieldLink "java/lang/String" 15 "java/lang/String" "coder" "B") && (e_w 1295 (.fieldLink "java/lang/String" 38 "java/lang/String" "COMPACT_STRINGS" "Z") && (e_w 1303 (.fieldLink "java/lang/String" 1053 "jdk/internal/util/Preconditions" "SIOOBE_FORMATTER" "Ljava/util/function/BiFunction;") && (e_w 1694 (.constantDouble "RankhallLaw" 176 13858279740860792832) && (e_w 1703 (.constantDouble "RankhallLaw" 342 4658815484840378368))))))) = true := by decide +kernel
section e_ldw
variable {p : Program} {l : Launch} {e : Env} {R : Room} {s : State} {m : MethodId} {args : Array Value} {below : List Frame} {meth : Method} {c : Code} {H : Heap} {locs : List Loc} {cells slots : Nat} {Q : State → Prop} {T : State} {cc : ByteArray} {pc : Nat} {ls : Array Slot} {rest : List Value}
theorem e_ldcWs (X : Stand p l e R s m args below meth c T locs cells slots) (hexec : p.tables.exec = Jvm.exec) {own text : String} {index : Nat} {a : Addr} (hown : s.vm.findClass own = some m.cls)
    (hconst : (Cond.stringRef own index text).before args s = true) (hev : (Term.string own index).eval args s none [] s = some (.ref a)) {g : JFrame} (hg : g.method = m) (hdg : decode c.code g.pc = .ok (.ldc_w index, 3)) :
    ∀ target, Steps p.tables e below (T.setTop { g with pc := g.pc + 3, stack := .ref a :: g.stack }) target → Steps p.tables e below (T.setTop g) target := by
  obtain ⟨k, cf, i, a', hk, hcf, hcp, -, hr, hev'⟩ := Cond.stringRef_spec hown hconst
  cases hev.symm.trans hev'
  obtain ⟨k', hk', he⟩ := X.warmed.alike.2.2 _ _ hk
  have hr' : k'.resolved[index]? = some (some (.string a)) := by
    rcases X.warmed.entry hk hk' index with h | ⟨h, -⟩
    · rw [h]; exact hr
    · rw [hr] at h; cases h
  intro target hrest
  subst hg
  jvm_step X.here [hexec, hdg, ldc_w.wp_string (e := e) (s := T) (f := g) X.here.top hk' (by rw [he]; exact hcf) hcp hr']
  exact hrest
theorem e_ldcSw (hexec : p.tables.exec = Jvm.exec) (hb : c.code = cc) {own tx : String} {index q : Nat} (hown : s.vm.findClass own = some m.cls) (hZ : vk_R own index tx q s) (hdg : decode cc pc = .ok (.ldc_w index, 3))
    (k : W p l e R s m args below meth c H locs cells slots Q (F0 m (pc + 3) ls (.ref q :: rest))) : W p l e R s m args below meth c H locs cells slots Q (F0 m pc ls rest) := by
  intro T hT X
  obtain ⟨t, a1, b1⟩ := k T hT X
  exact ⟨t, e_ldcWs X hexec hown (text := tx) (a := q) hZ.1 hZ.2 (g := F0 m pc ls rest) rfl (by rw [hb]; exact hdg) t a1, b1⟩
end e_ldw
section e_str
variable {X : e_XT} {d : Nat} {K : e_KT} {pc a : Nat} {ll : e_LL} {st rest : List Value} {h h' : e_Hp} {r : e_Rt}
theorem e_J.ldcs {i : Nat} (hi : i < 5) (hK : K.1 = 21) (hdg : decode K.2.2.1 pc = .ok (.ldc (e_st i).1, 2)) (k : e_J X d K (pc + 2) ll (.ref (e_xb + (10 + i)) :: rest) h r h') : e_J X d K pc ll rest h r h' := by
  intro hw w
  obtain ⟨g, kk⟩ := k hw (w.cons (fun q hq => by cases hq; exact Or.inr (Nat.le_add_right _ _)))
  refine ⟨g, fun p l e R s m args below meth c H locs cells slots Q ad ls D cA ex A C hf hl hex hP hD hS hL hc hs hfin => ?_⟩
  have hN := e_S_ok
  simp only [Bool.and_eq_true] at hN
  obtain ⟨n1, n2, n3, n4, n5, n6⟩ := hN
  have hts := C.1.2.2.2.2.2.1
  have hown := C.1.2.2.2.1
  obtain ⟨t1, t2, t3, t4⟩ := C.2.1.2.2.2.2
  have k9 := kk p l e R s m args below meth c H locs cells slots Q ad ls D cA ex A C hf hl hex hP hD hS hL hc hs hfin
  rw [List.map_cons] at k9
  rw [hK] at hown
  have e9 : e_rl ad (.ref (e_xb + (10 + i))) = .ref (ex (10 + i)) := congrArg Value.ref (hex (10 + i) (by omega))
  rw [e9] at k9
  exact va_ldcS C.1.1 C.1.2.1 (own := "RankhallLaw") hown (t2 i hi) hdg k9
theorem e_J.ldcsw {i : Nat} (hi : i < 5) (hK : K.1 = 21) (hdg : decode K.2.2.1 pc = .ok (.ldc_w (e_st i).1, 3)) (k : e_J X d K (pc + 3) ll (.ref (e_xb + (10 + i)) :: rest) h r h') : e_J X d K pc ll rest h r h' := by
  intro hw w
  obtain ⟨g, kk⟩ := k hw (w.cons (fun q hq => by cases hq; exact Or.inr (Nat.le_add_right _ _)))
  refine ⟨g, fun p l e R s m args below meth c H locs cells slots Q ad ls D cA ex A C hf hl hex hP hD hS hL hc hs hfin => ?_⟩
  have hN := e_S_ok
  simp only [Bool.and_eq_true] at hN
  obtain ⟨n1, n2, n3, n4, n5, n6⟩ := hN
  have hts := C.1.2.2.2.2.2.1
  have hown := C.1.2.2.2.1
  obtain ⟨t1, t2, t3, t4⟩ := C.2.1.2.2.2.2
  have k9 := kk p l e R s m args below meth c H locs cells slots Q ad ls D cA ex A C hf hl hex hP hD hS hL hc hs hfin
  rw [List.map_cons] at k9
  rw [hK] at hown
  have e9 : e_rl ad (.ref (e_xb + (10 + i))) = .ref (ex (10 + i)) := congrArg Value.ref (hex (10 + i) (by omega))
  rw [e9] at k9
  exact e_ldcSw C.1.1 C.1.2.1 (own := "RankhallLaw") hown (t2 i hi) hdg k9
theorem e_J.ldcd {ix : Nat} {v : UInt64} (hv : (ix = 176 ∧ v = 13858279740860792832) ∨ (ix = 342 ∧ v = 4658815484840378368)) (hK : K.1 = 21) (hdg : decode K.2.2.1 pc = .ok (.ldc2_w ix, 3)) (k : e_J X d K (pc + 3) ll (.double v :: rest) h r h') : e_J X d K pc ll rest h r h' := by
  intro hw w
  obtain ⟨g, kk⟩ := k hw (w.cons e_okv.double)
  refine ⟨g, fun p l e R s m args below meth c H locs cells slots Q ad ls D cA ex A C hf hl hex hP hD hS hL hc hs hfin => ?_⟩
  have hN := e_S_ok
  simp only [Bool.and_eq_true] at hN
  obtain ⟨n1, n2, n3, n4, n5, n6⟩ := hN
  have hts := C.1.2.2.2.2.2.1
  have hown := C.1.2.2.2.1
  obtain ⟨t1, t2, t3, t4⟩ := C.2.1.2.2.2.2
  have k9 := kk p l e R s m args below meth c H locs cells slots Q ad ls D cA ex A C hf hl hex hP hD hS hL hc hs hfin
  rw [List.map_cons] at k9
  rw [hK] at hown
  rcases hv with ⟨rfl, rfl⟩ | ⟨rfl, rfl⟩
  · exact lv_ldc2d C.1.1 C.1.2.1 (own := "RankhallLaw") hown (hts _ (e_w_in n5)) hdg k9
  · exact lv_ldc2d C.1.1 C.1.2.1 (own := "RankhallLaw") hown (hts _ (e_w_in n6)) hdg k9
theorem e_J.compact (hK : K.1 = 31) (hdg : decode K.2.2.1 pc = .ok (.getstatic 38, 3)) (k : e_J X d K (pc + 3) ll (.int 1 :: rest) h r h') : e_J X d K pc ll rest h r h' := by
  intro hw w
  obtain ⟨g, kk⟩ := k hw (w.cons e_okv.int)
  refine ⟨g, fun p l e R s m args below meth c H locs cells slots Q ad ls D cA ex A C hf hl hex hP hD hS hL hc hs hfin => ?_⟩
  have hN := e_S_ok
  simp only [Bool.and_eq_true] at hN
  obtain ⟨n1, n2, n3, n4, n5, n6⟩ := hN
  have hts := C.1.2.2.2.2.2.1
  have hown := C.1.2.2.2.1
  obtain ⟨t1, t2, t3, t4⟩ := C.2.1.2.2.2.2
  have k9 := kk p l e R s m args below meth c H locs cells slots Q ad ls D cA ex A C hf hl hex hP hD hS hL hc hs hfin
  rw [List.map_cons] at k9
  rw [hK] at hown
  exact va_gets C.1.1 C.1.2.1 t3 hS (own := "java/lang/String") hown (hts _ (e_w_in n3)) (fun x hx => hx) hdg k9
theorem e_J.sioobe (hK : K.1 = 31) (hdg : decode K.2.2.1 pc = .ok (.getstatic 1053, 3)) (k : e_J X d K (pc + 3) ll (.ref (e_xb + 20) :: rest) h r h') (k2 : e_J X d K (pc + 3) ll (.null :: rest) h r h') : e_J X d K pc ll rest h r h' := by
  intro hw w
  obtain ⟨g, kk⟩ := k hw (w.cons (fun q hq => by cases hq; exact Or.inr (Nat.le_add_right _ _)))
  obtain ⟨-, kk2⟩ := k2 hw (w.cons (fun q hq => by cases hq))
  refine ⟨g, fun p l e R s m args below meth c H locs cells slots Q ad ls D cA ex A C hf hl hex hP hD hS hL hc hs hfin => ?_⟩
  have hN := e_S_ok
  simp only [Bool.and_eq_true] at hN
  obtain ⟨n1, n2, n3, n4, n5, n6⟩ := hN
  have hts := C.1.2.2.2.2.2.1
  have hown := C.1.2.2.2.1
  obtain ⟨t1, t2, t3, t4⟩ := C.2.1.2.2.2.2
  rw [hK] at hown
  rcases t4 with t4 | t4
  · have k9 := kk p l e R s m args below meth c H locs cells slots Q ad ls D cA ex A C hf hl hex hP hD hS hL hc hs hfin
    rw [List.map_cons] at k9
    have e9 : e_rl ad (.ref (e_xb + 20)) = .ref (ex 20) := congrArg Value.ref (hex 20 (by decide))
    rw [e9] at k9
    exact va_gets C.1.1 C.1.2.1 t4 hS (own := "java/lang/String") hown (hts _ (e_w_in n4)) (fun x hx => hx) hdg k9
  · have k9 := kk2 p l e R s m args below meth c H locs cells slots Q ad ls D cA ex A C hf hl hex hP hD hS hL hc hs hfin
    rw [List.map_cons] at k9
    have e9 : e_rl ad .null = .null := rfl
    rw [e9] at k9
    exact va_gets C.1.1 C.1.2.1 t4 hS (own := "java/lang/String") hown (hts _ (e_w_in n4)) (fun x hx => hx) hdg k9
theorem e_J.value {i : Nat} (hi : i < 5) (hK : K.1 = 31) (hdg : decode K.2.2.1 pc = .ok (.getfield 9, 3)) (k : e_J X d K (pc + 3) ll (.ref (e_xb + (15 + i)) :: rest) h r h') : e_J X d K pc ll (.ref (e_xb + (10 + i)) :: rest) h r h' := by
  intro hw w
  obtain ⟨g, kk⟩ := k hw (w.tail.cons (fun q hq => by cases hq; exact Or.inr (Nat.le_add_right _ _)))
  refine ⟨g, fun p l e R s m args below meth c H locs cells slots Q ad ls D cA ex A C hf hl hex hP hD hS hL hc hs hfin => ?_⟩
  have hN := e_S_ok
  simp only [Bool.and_eq_true] at hN
  obtain ⟨n1, n2, n3, n4, n5, n6⟩ := hN
  have hts := C.1.2.2.2.2.2.1
  have hown := C.1.2.2.2.1
  obtain ⟨t1, t2, t3, t4⟩ := C.2.1.2.2.2.2
  have k9 := kk p l e R s m args below meth c H locs cells slots Q ad ls D cA ex A C hf hl hex hP hD hS hL hc hs hfin
  rw [List.map_cons] at k9
  rw [hK] at hown
  have e8 : e_rl ad (.ref (e_xb + (10 + i))) = .ref (ex (10 + i)) := congrArg Value.ref (hex (10 + i) (by omega))
  have e9 : e_rl ad (.ref (e_xb + (15 + i))) = .ref (ex (15 + i)) := congrArg Value.ref (hex (15 + i) (by omega))
  rw [e9] at k9
  rw [List.map_cons, e8]
  exact vk_getf C.1.1 C.1.2.1 (t1.1 i hi).2.2.1 hS (own := "java/lang/String") hown (hts _ (e_w_in n1)) (fun x hx => hx) hdg k9
theorem e_J.coder {i : Nat} (hi : i < 5) (hK : K.1 = 31) (hdg : decode K.2.2.1 pc = .ok (.getfield 15, 3)) (k : e_J X d K (pc + 3) ll (.int 0 :: rest) h r h') : e_J X d K pc ll (.ref (e_xb + (10 + i)) :: rest) h r h' := by
  intro hw w
  obtain ⟨g, kk⟩ := k hw (w.tail.cons e_okv.int)
  refine ⟨g, fun p l e R s m args below meth c H locs cells slots Q ad ls D cA ex A C hf hl hex hP hD hS hL hc hs hfin => ?_⟩
  have hN := e_S_ok
  simp only [Bool.and_eq_true] at hN
  obtain ⟨n1, n2, n3, n4, n5, n6⟩ := hN
  have hts := C.1.2.2.2.2.2.1
  have hown := C.1.2.2.2.1
  obtain ⟨t1, t2, t3, t4⟩ := C.2.1.2.2.2.2
  have k9 := kk p l e R s m args below meth c H locs cells slots Q ad ls D cA ex A C hf hl hex hP hD hS hL hc hs hfin
  rw [List.map_cons] at k9
  rw [hK] at hown
  have e8 : e_rl ad (.ref (e_xb + (10 + i))) = .ref (ex (10 + i)) := congrArg Value.ref (hex (10 + i) (by omega))
  rw [List.map_cons, e8]
  exact vk_getf C.1.1 C.1.2.1 (t1.1 i hi).2.1 hS (own := "java/lang/String") hown (hts _ (e_w_in n2)) (fun x hx => hx) hdg k9
theorem e_J.blen {i : Nat} (hi : i < 5) (hdg : decode K.2.2.1 pc = .ok (.arraylength, 1)) (k : e_J X d K (pc + 1) ll (.int (Int32.ofNat (e_SLen.getD i 0)) :: rest) h r h') : e_J X d K pc ll (.ref (e_xb + (15 + i)) :: rest) h r h' := by
  intro hw w
  obtain ⟨g, kk⟩ := k hw (w.tail.cons e_okv.int)
  refine ⟨g, fun p l e R s m args below meth c H locs cells slots Q ad ls D cA ex A C hf hl hex hP hD hS hL hc hs hfin => ?_⟩
  have hN := e_S_ok
  simp only [Bool.and_eq_true] at hN
  obtain ⟨n1, n2, n3, n4, n5, n6⟩ := hN
  have hts := C.1.2.2.2.2.2.1
  have hown := C.1.2.2.2.1
  obtain ⟨t1, t2, t3, t4⟩ := C.2.1.2.2.2.2
  have k9 := kk p l e R s m args below meth c H locs cells slots Q ad ls D cA ex A C hf hl hex hP hD hS hL hc hs hfin
  rw [List.map_cons] at k9
  have e8 : e_rl ad (.ref (e_xb + (15 + i))) = .ref (ex (15 + i)) := congrArg Value.ref (hex (15 + i) (by omega))
  rw [List.map_cons, e8]
  exact va_tlen C.1.1 C.1.2.1 (t1.1 i hi).2.2.2 hS rfl hdg k9
theorem e_J.bald {i : Nat} {y : Int32} (hi : i < 5) (hy : e_in y (e_SLen.getD i 0) = true) (hdg : decode K.2.2.1 pc = .ok (.baload, 1)) (k : e_J X d K (pc + 1) ll (.int ((e_SByt.getD i []).getD y.toNatClampNeg 0) :: rest) h r h') : e_J X d K pc ll (.int y :: .ref (e_xb + (15 + i)) :: rest) h r h' := by
  intro hw w
  obtain ⟨g, kk⟩ := k hw (w.tail.tail.cons e_okv.int)
  refine ⟨g, fun p l e R s m args below meth c H locs cells slots Q ad ls D cA ex A C hf hl hex hP hD hS hL hc hs hfin => ?_⟩
  have hN := e_S_ok
  simp only [Bool.and_eq_true] at hN
  obtain ⟨n1, n2, n3, n4, n5, n6⟩ := hN
  have hts := C.1.2.2.2.2.2.1
  have hown := C.1.2.2.2.1
  obtain ⟨t1, t2, t3, t4⟩ := C.2.1.2.2.2.2
  have k9 := kk p l e R s m args below meth c H locs cells slots Q ad ls D cA ex A C hf hl hex hP hD hS hL hc hs hfin
  rw [List.map_cons] at k9
  have e8 : e_rl ad (.ref (e_xb + (15 + i))) = .ref (ex (15 + i)) := congrArg Value.ref (hex (15 + i) (by omega))
  rw [List.map_cons, List.map_cons, e8]
  exact va_tb C.1.1 C.1.2.1 (t1.1 i hi).2.2.2 hS (e_in_of hy) rfl hdg k9
end e_str
