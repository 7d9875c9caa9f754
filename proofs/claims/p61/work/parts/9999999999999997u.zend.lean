/-! 9999999999999997u: what holds at the start, the claim (printed by wip/p61/mku.py) -/
abbrev l_GV : Cond := Jvm.Cond.and given_1 narrow_1
def l_nw : List (Nat × Cond) := [(16, .arrayOf (.static "Rankhall$Continuo" "FIFTH" "[I") .int),
  (17, .eq (.length (.static "Rankhall$Continuo" "FIFTH" "[I")) (.int 3)),
  (18, .eq (.elem (.static "Rankhall$Continuo" "FIFTH" "[I") (.int 0)) (.int 0)),
  (19, .eq (.elem (.static "Rankhall$Continuo" "FIFTH" "[I") (.int 1)) (.int 2)),
  (20, .eq (.elem (.static "Rankhall$Continuo" "FIFTH" "[I") (.int 2)) (.int 4)),
  (22, .arrayOf (.static "Rankhall$Continuo" "SIXTH" "[I") .int),
  (23, .eq (.length (.static "Rankhall$Continuo" "SIXTH" "[I")) (.int 3)),
  (24, .eq (.elem (.static "Rankhall$Continuo" "SIXTH" "[I") (.int 0)) (.int 0)),
  (25, .eq (.elem (.static "Rankhall$Continuo" "SIXTH" "[I") (.int 1)) (.int 2)),
  (26, .eq (.elem (.static "Rankhall$Continuo" "SIXTH" "[I") (.int 2)) (.int 5)),
  (28, .arrayOf (.static "Rankhall$Continuo" "FOURTH" "[I") .int),
  (29, .eq (.length (.static "Rankhall$Continuo" "FOURTH" "[I")) (.int 3)),
  (30, .eq (.elem (.static "Rankhall$Continuo" "FOURTH" "[I") (.int 0)) (.int 0)),
  (31, .eq (.elem (.static "Rankhall$Continuo" "FOURTH" "[I") (.int 1)) (.int 3)),
  (32, .eq (.elem (.static "Rankhall$Continuo" "FOURTH" "[I") (.int 2)) (.int 5)),
  (34, .arrayOf (.static "Rankhall$Continuo" "SEVENTH" "[I") .int),
  (35, .eq (.length (.static "Rankhall$Continuo" "SEVENTH" "[I")) (.int 3)),
  (36, .eq (.elem (.static "Rankhall$Continuo" "SEVENTH" "[I") (.int 0)) (.int 2)),
  (37, .eq (.elem (.static "Rankhall$Continuo" "SEVENTH" "[I") (.int 1)) (.int 4)),
  (38, .eq (.elem (.static "Rankhall$Continuo" "SEVENTH" "[I") (.int 2)) (.int 6)),
  (40, .arrayOf (.static "Rankhall$Continuo" "NONE" "[I") .int),
  (41, .eq (.length (.static "Rankhall$Continuo" "NONE" "[I")) (.int 0)),
  (43, .arrayOf (.static "Rankhall$Continuo" "MAJOR" "[I") .int),
  (44, .eq (.length (.static "Rankhall$Continuo" "MAJOR" "[I")) (.int 7)),
  (45, .eq (.elem (.static "Rankhall$Continuo" "MAJOR" "[I") (.int 0)) (.int 0)),
  (46, .eq (.elem (.static "Rankhall$Continuo" "MAJOR" "[I") (.int 1)) (.int 2)),
  (47, .eq (.elem (.static "Rankhall$Continuo" "MAJOR" "[I") (.int 2)) (.int 4)),
  (48, .eq (.elem (.static "Rankhall$Continuo" "MAJOR" "[I") (.int 3)) (.int 5)),
  (49, .eq (.elem (.static "Rankhall$Continuo" "MAJOR" "[I") (.int 4)) (.int 7)),
  (50, .eq (.elem (.static "Rankhall$Continuo" "MAJOR" "[I") (.int 5)) (.int 9)),
  (51, .eq (.elem (.static "Rankhall$Continuo" "MAJOR" "[I") (.int 6)) (.int 11)),
  (53, .arrayOf (.static "Rankhall$Continuo" "MINOR" "[I") .int),
  (54, .eq (.length (.static "Rankhall$Continuo" "MINOR" "[I")) (.int 7)),
  (55, .eq (.elem (.static "Rankhall$Continuo" "MINOR" "[I") (.int 0)) (.int 0)),
  (56, .eq (.elem (.static "Rankhall$Continuo" "MINOR" "[I") (.int 1)) (.int 2)),
  (57, .eq (.elem (.static "Rankhall$Continuo" "MINOR" "[I") (.int 2)) (.int 3)),
  (58, .eq (.elem (.static "Rankhall$Continuo" "MINOR" "[I") (.int 3)) (.int 5)),
  (59, .eq (.elem (.static "Rankhall$Continuo" "MINOR" "[I") (.int 4)) (.int 7)),
  (60, .eq (.elem (.static "Rankhall$Continuo" "MINOR" "[I") (.int 5)) (.int 8)),
  (61, .eq (.elem (.static "Rankhall$Continuo" "MINOR" "[I") (.int 6)) (.int 10)),
  (5, .arrayOf (.static "java/util/ArrayList" "DEFAULTCAPACITY_EMPTY_ELEMENTDATA" "[Ljava/lang/Object;") (.object "java/lang/Object")),
  (7, .eq (.length (.static "java/util/ArrayList" "DEFAULTCAPACITY_EMPTY_ELEMENTDATA" "[Ljava/lang/Object;")) (.int 0)),
  (8, .isRef (.static "java/lang/Throwable" "UNASSIGNED_STACK" "[Ljava/lang/StackTraceElement;")),
  (9, .isRef (.static "java/lang/Throwable" "SUPPRESSED_SENTINEL" "Ljava/util/List;")),
  (196, .isRef (.mirror "[Ljava/lang/Object;")),
  (10, .eq (.static "java/lang/String" "COMPACT_STRINGS" "Z") (.int 1)),
  (11, .isRef (.static "jdk/internal/util/Preconditions" "SIOOBE_FORMATTER" "Ljava/util/function/BiFunction;")),
  (581, .exactly (.string "RankhallLaw" 254) "java/lang/String"),
  (582, .eq (.field (.string "RankhallLaw" 254) "java/lang/String" "coder" "B") (.int 0)),
  (583, .arrayOf (.field (.string "RankhallLaw" 254) "java/lang/String" "value" "[B") .byte),
  (584, .eq (.length (.field (.string "RankhallLaw" 254) "java/lang/String" "value" "[B")) (.int 4)),
  (585, .eq (.elem (.field (.string "RankhallLaw" 254) "java/lang/String" "value" "[B") (.int 0)) (.int 38)),
  (586, .eq (.elem (.field (.string "RankhallLaw" 254) "java/lang/String" "value" "[B") (.int 1)) (.int 124)),
  (587, .eq (.elem (.field (.string "RankhallLaw" 254) "java/lang/String" "value" "[B") (.int 2)) (.int 94)),
  (588, .eq (.elem (.field (.string "RankhallLaw" 254) "java/lang/String" "value" "[B") (.int 3)) (.int 33)),
  (734, .exactly (.string "RankhallLaw" 267) "java/lang/String"),
  (735, .eq (.field (.string "RankhallLaw" 267) "java/lang/String" "coder" "B") (.int 0)),
  (736, .arrayOf (.field (.string "RankhallLaw" 267) "java/lang/String" "value" "[B") .byte),
  (737, .eq (.length (.field (.string "RankhallLaw" 267) "java/lang/String" "value" "[B")) (.int 4)),
  (738, .eq (.elem (.field (.string "RankhallLaw" 267) "java/lang/String" "value" "[B") (.int 0)) (.int 53)),
  (739, .eq (.elem (.field (.string "RankhallLaw" 267) "java/lang/String" "value" "[B") (.int 1)) (.int 54)),
  (740, .eq (.elem (.field (.string "RankhallLaw" 267) "java/lang/String" "value" "[B") (.int 2)) (.int 52)),
  (741, .eq (.elem (.field (.string "RankhallLaw" 267) "java/lang/String" "value" "[B") (.int 3)) (.int 55)),
  (791, .exactly (.string "RankhallLaw" 272) "java/lang/String"),
  (792, .eq (.field (.string "RankhallLaw" 272) "java/lang/String" "coder" "B") (.int 0)),
  (793, .arrayOf (.field (.string "RankhallLaw" 272) "java/lang/String" "value" "[B") .byte),
  (794, .eq (.length (.field (.string "RankhallLaw" 272) "java/lang/String" "value" "[B")) (.int 3)),
  (795, .eq (.elem (.field (.string "RankhallLaw" 272) "java/lang/String" "value" "[B") (.int 0)) (.int 107)),
  (796, .eq (.elem (.field (.string "RankhallLaw" 272) "java/lang/String" "value" "[B") (.int 1)) (.int 114)),
  (797, .eq (.elem (.field (.string "RankhallLaw" 272) "java/lang/String" "value" "[B") (.int 2)) (.int 45)),
  (849, .exactly (.string "RankhallLaw" 283) "java/lang/String"),
  (850, .eq (.field (.string "RankhallLaw" 283) "java/lang/String" "coder" "B") (.int 0)),
  (851, .arrayOf (.field (.string "RankhallLaw" 283) "java/lang/String" "value" "[B") .byte),
  (852, .eq (.length (.field (.string "RankhallLaw" 283) "java/lang/String" "value" "[B")) (.int 3)),
  (853, .eq (.elem (.field (.string "RankhallLaw" 283) "java/lang/String" "value" "[B") (.int 0)) (.int 99)),
  (854, .eq (.elem (.field (.string "RankhallLaw" 283) "java/lang/String" "value" "[B") (.int 1)) (.int 100)),
  (855, .eq (.elem (.field (.string "RankhallLaw" 283) "java/lang/String" "value" "[B") (.int 2)) (.int 45)),
  (969, .exactly (.string "RankhallLaw" 189) "java/lang/String"),
  (970, .eq (.field (.string "RankhallLaw" 189) "java/lang/String" "coder" "B") (.int 0)),
  (971, .arrayOf (.field (.string "RankhallLaw" 189) "java/lang/String" "value" "[B") .byte),
  (972, .eq (.length (.field (.string "RankhallLaw" 189) "java/lang/String" "value" "[B")) (.int 4)),
  (973, .eq (.elem (.field (.string "RankhallLaw" 189) "java/lang/String" "value" "[B") (.int 0)) (.int 97)),
  (974, .eq (.elem (.field (.string "RankhallLaw" 189) "java/lang/String" "value" "[B") (.int 1)) (.int 109)),
  (975, .eq (.elem (.field (.string "RankhallLaw" 189) "java/lang/String" "value" "[B") (.int 2)) (.int 98)),
  (976, .eq (.elem (.field (.string "RankhallLaw" 189) "java/lang/String" "value" "[B") (.int 3)) (.int 112))]
def l_cp : List (Nat × Nat × Nat) := [(0, 1, 91), (0, 2, 110), (0, 3, 128), (0, 4, 147), (0, 5, 166), (1, 0, 72), (1, 2, 111), (1, 3, 129), (1, 4, 148), (1, 5, 167), (2, 0, 76), (2, 1, 95), (2, 3, 133), (2, 4, 152), (2, 5, 171), (3, 0, 78), (3, 1, 97), (3, 2, 115), (3, 4, 154), (3, 5, 173), (4, 0, 79), (4, 1, 98), (4, 2, 116), (4, 3, 135), (4, 5, 174), (5, 0, 80), (5, 1, 99), (5, 2, 117), (5, 3, 136), (5, 4, 155)]
def l_sp : List (Nat × Nat) := [(494, 197), (61, 225), (487, 247), (512, 267), (514, 289), (525, 305), (520, 321), (125, 346), (142, 369), (492, 388), (500, 415), (507, 445), (319, 484), (357, 524), (360, 541), (502, 564), (496, 589), (386, 606), (388, 643), (498, 668), (344, 690), (450, 742), (457, 760), (400, 798), (413, 825), (530, 856), (258, 886), (473, 903), (476, 925), (132, 943)]
set_option maxRecDepth 100000 in
theorem l_nw_ok : (l_nw.all fun q => decide ((flatC l_GV)[q.1]? = some q.2)) = true := by decide +kernel
set_option maxRecDepth 100000 in
theorem l_cp_ok : (l_cp.all fun q => decide ((flatC l_GV)[q.2.2]? = some (.not (.castable (e_en q.1) (e_en q.2.1))))) = true := by decide +kernel
set_option maxRecDepth 100000 in
theorem l_sp_ok : (l_sp.all fun q => decide ((flatC l_GV)[q.2]? = some (.exactly (.string "Rankhall" q.1) "java/lang/String"))) = true := by decide +kernel
theorem l_cp_all : ((List.range 6).all fun i => (List.range 6).all fun j => decide (i = j) || l_cp.any (fun q => decide (q.1 = i) && decide (q.2.1 = j))) = true := by decide
theorem l_sp_all : (e_TX.all fun q => l_sp.any (fun r => decide (r.1 = q.1))) = true := by decide
set_option maxRecDepth 100000 in
theorem l_tx_ok : (e_TX.all fun q => decide (e_tb q.2.2 = some (.stringRef "Rankhall" q.1 q.2.1))) = true := by decide +kernel
set_option maxRecDepth 100000 in
theorem l_nc_ok : ((List.range 21).all fun ci => match e_NW[ci]? with | some q => decide (e_tb q.1 = some (.instantiable (e_cn ci) (e_cF ci))) | none => false) = true := by decide +kernel
theorem l_cl : ∀ c, c < 21 → vwCl[c]? = some (e_cn c, e_cT c, e_cF c)
  | 0, _ => rfl
  | 1, _ => rfl
  | 2, _ => rfl
  | 3, _ => rfl
  | 4, _ => rfl
  | 5, _ => rfl
  | 6, _ => rfl
  | 7, _ => rfl
  | 8, _ => rfl
  | 9, _ => rfl
  | 10, _ => rfl
  | 11, _ => rfl
  | 12, _ => rfl
  | 13, _ => rfl
  | 14, _ => rfl
  | 15, _ => rfl
  | 16, _ => rfl
  | 17, _ => rfl
  | 18, _ => rfl
  | 19, _ => rfl
  | 20, _ => rfl
  | n + 21, h => absurd h (by omega)
section l_st
variable {s : State} {args : Array Value}
theorem l_gv (hgv : l_GV.before args s = true) {i : Nat} {w : Cond} (h : (flatC l_GV)[i]? = some w) : w.before args s = true := flat_of_before _ hgv w (List.mem_of_getElem? h)
theorem l_nwb (hgv : l_GV.before args s = true) {k i : Nat} {w : Cond} (h : l_nw[k]? = some (i, w)) : w.before args s = true := l_gv hgv (of_decide_eq_true (List.all_eq_true.mp l_nw_ok _ (List.mem_of_getElem? h)))
theorem l_arrP {ty : FieldType} (hp : ∀ C, ty ≠ .object C) (h : (Cond.arrayClass ty).before args s = true) : ∃ cA, ArrOfT s cA ty ∧ va_RA s cA ty := by
  obtain ⟨cA, k, comp, h1, h2, h3⟩ := Cond.arrayClass_spec h
  refine ⟨cA, fun n z => ⟨fun k h => (by cases h), k, h2, comp, h3⟩, ?_⟩
  cases ty with
  | object C => exact absurd rfl (hp C)
  | _ => exact h1
theorem l_arrO {C : String} (h : (Cond.arrayOver (.object C)).before args s = true) : ∃ cA, ArrOfT s cA (.object C) ∧ va_RA s cA (.object C) := by
  obtain ⟨comp, cA, k, h1, -, h2, h3, h4⟩ := Cond.arrayOver_spec h
  exact ⟨cA, fun n z => ⟨fun k h => (by cases h), k, h2, comp, h3⟩, k, comp, h2, h3, h1, h4⟩
theorem l_vaK (hts : ∀ w ∈ lw_tbl, w.before args s = true) : ∃ (D : va_G) (cA : Nat → ClassId), va_K D vwCl (e_tys cA) s := by
  have htt : ∀ w ∈ e_tt, w.before args s = true := fun w hw => hts w (List.mem_filter.mp hw).1
  have hK : ∀ ci : Nat, ∃ cC : ClassId, ∃ iS : Nat → Nat, ci < 21 → u_Kn s (e_cn ci) (e_cT ci) (e_cF ci) cC iS := fun ci => by
    by_cases h : ci < 21
    · have h1 := List.all_eq_true.mp l_nc_ok ci (List.mem_range.mpr h)
      split at h1
      · obtain ⟨cC, iS, h9⟩ := u_known htt (e_uw h) (hts _ (e_tb_in (of_decide_eq_true h1)))
        exact ⟨cC, iS, fun _ => h9⟩
      · cases h1
    · have h0 : (0 : Nat) < 21 := by decide
      have h1 := List.all_eq_true.mp l_nc_ok 0 (List.mem_range.mpr h0)
      split at h1
      · obtain ⟨cC, iS, h9⟩ := u_known htt (e_uw h0) (hts _ (e_tb_in (of_decide_eq_true h1)))
        exact ⟨cC, iS, fun z => absurd z h⟩
      · cases h1
  obtain ⟨c0, g0⟩ := l_arrP (ty := .int) (fun C z => by cases z) (hts _ (e_tb_in (p := 111) (by decide +kernel)))
  obtain ⟨c1, g1⟩ := l_arrP (ty := .boolean) (fun C z => by cases z) (hts _ (e_tb_in (p := 110) (by decide +kernel)))
  obtain ⟨c2, g2⟩ := l_arrP (ty := .char) (fun C z => by cases z) (hts _ (e_tb_in (p := 169) (by decide +kernel)))
  obtain ⟨c3, g3⟩ := l_arrP (ty := .long) (fun C z => by cases z) (hts _ (e_tb_in (p := 435) (by decide +kernel)))
  obtain ⟨c4, g4⟩ := l_arrP (ty := .byte) (fun C z => by cases z) (hts _ (e_tb_in (p := 675) (by decide +kernel)))
  obtain ⟨c5, g5⟩ := l_arrO (C := "java/lang/Object") (hts _ (e_tb_in (p := 270) (by decide +kernel)))
  obtain ⟨c6, g6⟩ := l_arrO (C := "Rankhall$Pipe") (hts _ (e_tb_in (p := 705) (by decide +kernel)))
  refine ⟨(fun ci => Classical.choose (hK ci), fun ci => Classical.choose (Classical.choose_spec (hK ci))), fun k => if k = 100 then c0 else if k = 101 then c1 else if k = 102 then c2 else if k = 103 then c3 else if k = 104 then c4 else if k = 105 then c5 else c6, fun c q hq => ?_, fun k q hq => ?_⟩
  · have hlt : c < 21 := (List.getElem?_eq_some_iff.mp hq).1
    rw [l_cl c hlt] at hq
    cases hq
    exact Classical.choose_spec (Classical.choose_spec (hK c)) hlt
  · match k, hq with
    | 0, hq => rw [← Option.some.inj (show some (c0, (.int : FieldType)) = some q from hq)]; exact g0
    | 1, hq => rw [← Option.some.inj (show some (c1, (.boolean : FieldType)) = some q from hq)]; exact g1
    | 2, hq => rw [← Option.some.inj (show some (c2, (.char : FieldType)) = some q from hq)]; exact g2
    | 3, hq => rw [← Option.some.inj (show some (c3, (.long : FieldType)) = some q from hq)]; exact g3
    | 4, hq => rw [← Option.some.inj (show some (c4, (.byte : FieldType)) = some q from hq)]; exact g4
    | 5, hq => rw [← Option.some.inj (show some (c5, (.object "java/lang/Object" : FieldType)) = some q from hq)]; exact g5
    | 6, hq => rw [← Option.some.inj (show some (c6, (.object "Rankhall$Pipe" : FieldType)) = some q from hq)]; exact g6
    | k + 7, hq => exact absurd hq (by simp [e_tys])
theorem l_stT {C n : String} {N : Nat} {f : Nat → Int32} {A : Nat → Prop} (hn : N < 2 ^ 31) (h1 : (Cond.arrayOf (.static C n "[I") .int).before args s = true) (h2 : (Cond.eq (.length (.static C n "[I")) (.int (Int32.ofNat N))).before args s = true) (h3 : ∀ j, j < N → (Cond.eq (.elem (.static C n "[I") (.int (Int32.ofNat j))) (.int (f j))).before args s = true) (hl : (Cond.laysStatic C n "[I").before args s = true) (hi : (Cond.initialized C).before args s = true) (hA : ∀ a : Nat, a < s.heap.size → ¬ A a) : ∃ t : Nat, va_T .int t N (fun j => .int (f j)) A s s.heap ∧ va_Z C n "[I" (.ref t) A s s.heap := by
  obtain ⟨t, ht, hT⟩ := va_Tof hn h1 (va_eqt h2) (fun j hj => va_eqt (h3 j hj)) hA
  exact ⟨t, hT, va_Zref hl hi ht hA⟩
theorem l_zq {C n d : String} {A : Nat → Prop} (hl : (Cond.laysStatic C n d).before args s = true) (hini : (Cond.initialized C).before args s = true) (h : (Cond.isRef (.static C n d)).before args s = true) (hA : ∀ a : Nat, a < s.heap.size → ¬ A a) : vx_Zq C n d A s s.heap := by
  refine ⟨va_Zqof hl hini h hA, ?_⟩
  obtain ⟨c, k, i, f, a, cell, q1, q2, q3, q4, q5, q6, q7, q8, q9⟩ := Cond.laysStatic_spec hl
  exact ⟨c, k, i, f, a, cell, q1, q2, q3, q4, q5, q6, q7, q8, q9, hA a (Array.getElem?_eq_some_iff.mp q5).1⟩
end l_st
/-- two text constants whose first letters differ are two objects -/
theorem l_difS {s : State} {A : Nat → Prop} {k1 k2 v1 v2 n1 n2 : Nat} {f1 f2 : Nat → Value} (h1 : va_OF "java/lang/String" "value" "[B" (.ref v1) k1 A s s.heap) (h2 : va_OF "java/lang/String" "value" "[B" (.ref v2) k2 A s s.heap) (g1 : va_T .byte v1 n1 f1 A s s.heap) (g2 : va_T .byte v2 n2 f2 A s s.heap) (hn1 : 0 < n1) (hn2 : 0 < n2) (hf : f1 0 ≠ f2 0) : ¬ k1 = k2 := fun e => by
  obtain ⟨a1, b1, c1, d1, e1, p1, p2, p3, p4, p5, -⟩ := h1
  obtain ⟨a2, b2, c2, d2, e2, q1, q2, q3, q4, q5, -⟩ := h2
  rw [e] at p3
  have hh := p1.symm.trans q1
  cases hh
  have hc := p3.symm.trans q3
  cases hc
  have hv := p5.symm.trans q5
  cases hv
  obtain ⟨x1, y1, -, -, -, -, z1, -⟩ := g1
  obtain ⟨x2, y2, -, -, -, -, z2, -⟩ := g2
  have hx := y1.symm.trans y2
  cases hx
  exact hf (Option.some.inj ((z1 0 hn1).symm.trans (z2 0 hn2)))
def l_XX (L : Nat) (xs : Nat → Int32) : e_XT := fun g => match g with
  | 0 => (L, xs)
  | 1 => (3, fun n => nI (v_fgr 1 n))
  | 2 => (3, fun n => nI (v_fgr 2 n))
  | 3 => (3, fun n => nI (v_fgr 3 n))
  | 4 => (3, fun n => nI (v_fgr 4 n))
  | 6 => (7, fun n => nI (v_sc true n))
  | 7 => (7, fun n => nI (v_sc false n))
  | _ => (0, fun _ => 0)
theorem l_XXX (L : Nat) (xs : Nat → Int32) : v_X (l_XX L xs) := by
  refine ⟨fun g h1 h4 => ?_, rfl, ⟨rfl, rfl⟩, fun i _ => ⟨rfl, rfl⟩⟩
  rcases (show g = 1 ∨ g = 2 ∨ g = 3 ∨ g = 4 by omega) with z | z | z | z <;> rw [z] <;> exact ⟨rfl, fun _ _ => rfl⟩
set_option maxRecDepth 100000 in
set_option maxHeartbeats 1600000 in
theorem lw_facts {s : State} {b L : Nat} {xs : Nat → Int32} (hts : ∀ w ∈ lw_tbl, w.before #[Value.ref b] s = true) (hX : va_X b L xs s s.heap) (hbl : b < s.heap.size) (hgv : l_GV.before #[Value.ref b] s = true) : ∃ (D : va_G) (cA : Nat → ClassId) (ex : Nat → Nat), e_Sg D cA (l_XX L xs) ex (fun q => s.heap.size ≤ q) s ∧ ex 0 = b := by
  have hA : ∀ a : Nat, a < s.heap.size → ¬ (fun q : Nat => s.heap.size ≤ q) a := fun a h => Nat.not_le.mpr h
  obtain ⟨D, cA, hK⟩ := l_vaK hts
  have hlay : ∀ (k : Nat) (q : String × String × String × Nat × Nat), e_SN[k]? = some q → (Cond.laysStatic q.1 q.2.1 q.2.2.1).before #[Value.ref b] s = true ∧ (Cond.initialized q.1).before #[Value.ref b] s = true := fun k q h => by
    have g := List.all_eq_true.mp e_SN_ok q (List.mem_of_getElem? h)
    unfold e_SNck at g
    rw [Bool.and_eq_true] at g
    exact ⟨hts _ (e_tb_in (of_decide_eq_true g.1)), hts _ (e_tb_in (of_decide_eq_true g.2))⟩
  have e1 : ∀ j, j < 3 → (Cond.eq (.elem (.static "Rankhall$Continuo" "FIFTH" "[I") (.int (Int32.ofNat j))) (.int ((fun n => nI (v_fgr 1 n)) j))).before #[Value.ref b] s = true := fun j hj => by
    match j, hj with
    | 0, _ => exact l_nwb (w := .eq (.elem (.static "Rankhall$Continuo" "FIFTH" "[I") (.int 0)) (.int 0)) hgv (k := 2) rfl
    | 1, _ => exact l_nwb (w := .eq (.elem (.static "Rankhall$Continuo" "FIFTH" "[I") (.int 1)) (.int 2)) hgv (k := 3) rfl
    | 2, _ => exact l_nwb (w := .eq (.elem (.static "Rankhall$Continuo" "FIFTH" "[I") (.int 2)) (.int 4)) hgv (k := 4) rfl
    | j + 3, hj => exact absurd hj (by omega)
  obtain ⟨t1, T1, Z1⟩ := l_stT (N := 3) (f := (fun n => nI (v_fgr 1 n))) (by decide) (l_nwb (w := .arrayOf (.static "Rankhall$Continuo" "FIFTH" "[I") .int) hgv (k := 0) rfl) (l_nwb (w := .eq (.length (.static "Rankhall$Continuo" "FIFTH" "[I")) (.int 3)) hgv (k := 1) rfl) e1 (hlay 0 _ rfl).1 (hlay 0 _ rfl).2 hA
  have e2 : ∀ j, j < 3 → (Cond.eq (.elem (.static "Rankhall$Continuo" "SIXTH" "[I") (.int (Int32.ofNat j))) (.int ((fun n => nI (v_fgr 2 n)) j))).before #[Value.ref b] s = true := fun j hj => by
    match j, hj with
    | 0, _ => exact l_nwb (w := .eq (.elem (.static "Rankhall$Continuo" "SIXTH" "[I") (.int 0)) (.int 0)) hgv (k := 7) rfl
    | 1, _ => exact l_nwb (w := .eq (.elem (.static "Rankhall$Continuo" "SIXTH" "[I") (.int 1)) (.int 2)) hgv (k := 8) rfl
    | 2, _ => exact l_nwb (w := .eq (.elem (.static "Rankhall$Continuo" "SIXTH" "[I") (.int 2)) (.int 5)) hgv (k := 9) rfl
    | j + 3, hj => exact absurd hj (by omega)
  obtain ⟨t2, T2, Z2⟩ := l_stT (N := 3) (f := (fun n => nI (v_fgr 2 n))) (by decide) (l_nwb (w := .arrayOf (.static "Rankhall$Continuo" "SIXTH" "[I") .int) hgv (k := 5) rfl) (l_nwb (w := .eq (.length (.static "Rankhall$Continuo" "SIXTH" "[I")) (.int 3)) hgv (k := 6) rfl) e2 (hlay 1 _ rfl).1 (hlay 1 _ rfl).2 hA
  have e3 : ∀ j, j < 3 → (Cond.eq (.elem (.static "Rankhall$Continuo" "FOURTH" "[I") (.int (Int32.ofNat j))) (.int ((fun n => nI (v_fgr 3 n)) j))).before #[Value.ref b] s = true := fun j hj => by
    match j, hj with
    | 0, _ => exact l_nwb (w := .eq (.elem (.static "Rankhall$Continuo" "FOURTH" "[I") (.int 0)) (.int 0)) hgv (k := 12) rfl
    | 1, _ => exact l_nwb (w := .eq (.elem (.static "Rankhall$Continuo" "FOURTH" "[I") (.int 1)) (.int 3)) hgv (k := 13) rfl
    | 2, _ => exact l_nwb (w := .eq (.elem (.static "Rankhall$Continuo" "FOURTH" "[I") (.int 2)) (.int 5)) hgv (k := 14) rfl
    | j + 3, hj => exact absurd hj (by omega)
  obtain ⟨t3, T3, Z3⟩ := l_stT (N := 3) (f := (fun n => nI (v_fgr 3 n))) (by decide) (l_nwb (w := .arrayOf (.static "Rankhall$Continuo" "FOURTH" "[I") .int) hgv (k := 10) rfl) (l_nwb (w := .eq (.length (.static "Rankhall$Continuo" "FOURTH" "[I")) (.int 3)) hgv (k := 11) rfl) e3 (hlay 2 _ rfl).1 (hlay 2 _ rfl).2 hA
  have e4 : ∀ j, j < 3 → (Cond.eq (.elem (.static "Rankhall$Continuo" "SEVENTH" "[I") (.int (Int32.ofNat j))) (.int ((fun n => nI (v_fgr 4 n)) j))).before #[Value.ref b] s = true := fun j hj => by
    match j, hj with
    | 0, _ => exact l_nwb (w := .eq (.elem (.static "Rankhall$Continuo" "SEVENTH" "[I") (.int 0)) (.int 2)) hgv (k := 17) rfl
    | 1, _ => exact l_nwb (w := .eq (.elem (.static "Rankhall$Continuo" "SEVENTH" "[I") (.int 1)) (.int 4)) hgv (k := 18) rfl
    | 2, _ => exact l_nwb (w := .eq (.elem (.static "Rankhall$Continuo" "SEVENTH" "[I") (.int 2)) (.int 6)) hgv (k := 19) rfl
    | j + 3, hj => exact absurd hj (by omega)
  obtain ⟨t4, T4, Z4⟩ := l_stT (N := 3) (f := (fun n => nI (v_fgr 4 n))) (by decide) (l_nwb (w := .arrayOf (.static "Rankhall$Continuo" "SEVENTH" "[I") .int) hgv (k := 15) rfl) (l_nwb (w := .eq (.length (.static "Rankhall$Continuo" "SEVENTH" "[I")) (.int 3)) hgv (k := 16) rfl) e4 (hlay 3 _ rfl).1 (hlay 3 _ rfl).2 hA
  have e5 : ∀ j, j < 0 → (Cond.eq (.elem (.static "Rankhall$Continuo" "NONE" "[I") (.int (Int32.ofNat j))) (.int ((fun _ => 0) j))).before #[Value.ref b] s = true := fun j hj => absurd hj (Nat.not_lt_zero j)
  obtain ⟨t5, T5, Z5⟩ := l_stT (N := 0) (f := (fun _ => 0)) (by decide) (l_nwb (w := .arrayOf (.static "Rankhall$Continuo" "NONE" "[I") .int) hgv (k := 20) rfl) (l_nwb (w := .eq (.length (.static "Rankhall$Continuo" "NONE" "[I")) (.int 0)) hgv (k := 21) rfl) e5 (hlay 4 _ rfl).1 (hlay 4 _ rfl).2 hA
  have e6 : ∀ j, j < 7 → (Cond.eq (.elem (.static "Rankhall$Continuo" "MAJOR" "[I") (.int (Int32.ofNat j))) (.int ((fun n => nI (v_sc true n)) j))).before #[Value.ref b] s = true := fun j hj => by
    match j, hj with
    | 0, _ => exact l_nwb (w := .eq (.elem (.static "Rankhall$Continuo" "MAJOR" "[I") (.int 0)) (.int 0)) hgv (k := 24) rfl
    | 1, _ => exact l_nwb (w := .eq (.elem (.static "Rankhall$Continuo" "MAJOR" "[I") (.int 1)) (.int 2)) hgv (k := 25) rfl
    | 2, _ => exact l_nwb (w := .eq (.elem (.static "Rankhall$Continuo" "MAJOR" "[I") (.int 2)) (.int 4)) hgv (k := 26) rfl
    | 3, _ => exact l_nwb (w := .eq (.elem (.static "Rankhall$Continuo" "MAJOR" "[I") (.int 3)) (.int 5)) hgv (k := 27) rfl
    | 4, _ => exact l_nwb (w := .eq (.elem (.static "Rankhall$Continuo" "MAJOR" "[I") (.int 4)) (.int 7)) hgv (k := 28) rfl
    | 5, _ => exact l_nwb (w := .eq (.elem (.static "Rankhall$Continuo" "MAJOR" "[I") (.int 5)) (.int 9)) hgv (k := 29) rfl
    | 6, _ => exact l_nwb (w := .eq (.elem (.static "Rankhall$Continuo" "MAJOR" "[I") (.int 6)) (.int 11)) hgv (k := 30) rfl
    | j + 7, hj => exact absurd hj (by omega)
  obtain ⟨t6, T6, Z6⟩ := l_stT (N := 7) (f := (fun n => nI (v_sc true n))) (by decide) (l_nwb (w := .arrayOf (.static "Rankhall$Continuo" "MAJOR" "[I") .int) hgv (k := 22) rfl) (l_nwb (w := .eq (.length (.static "Rankhall$Continuo" "MAJOR" "[I")) (.int 7)) hgv (k := 23) rfl) e6 (hlay 5 _ rfl).1 (hlay 5 _ rfl).2 hA
  have e7 : ∀ j, j < 7 → (Cond.eq (.elem (.static "Rankhall$Continuo" "MINOR" "[I") (.int (Int32.ofNat j))) (.int ((fun n => nI (v_sc false n)) j))).before #[Value.ref b] s = true := fun j hj => by
    match j, hj with
    | 0, _ => exact l_nwb (w := .eq (.elem (.static "Rankhall$Continuo" "MINOR" "[I") (.int 0)) (.int 0)) hgv (k := 33) rfl
    | 1, _ => exact l_nwb (w := .eq (.elem (.static "Rankhall$Continuo" "MINOR" "[I") (.int 1)) (.int 2)) hgv (k := 34) rfl
    | 2, _ => exact l_nwb (w := .eq (.elem (.static "Rankhall$Continuo" "MINOR" "[I") (.int 2)) (.int 3)) hgv (k := 35) rfl
    | 3, _ => exact l_nwb (w := .eq (.elem (.static "Rankhall$Continuo" "MINOR" "[I") (.int 3)) (.int 5)) hgv (k := 36) rfl
    | 4, _ => exact l_nwb (w := .eq (.elem (.static "Rankhall$Continuo" "MINOR" "[I") (.int 4)) (.int 7)) hgv (k := 37) rfl
    | 5, _ => exact l_nwb (w := .eq (.elem (.static "Rankhall$Continuo" "MINOR" "[I") (.int 5)) (.int 8)) hgv (k := 38) rfl
    | 6, _ => exact l_nwb (w := .eq (.elem (.static "Rankhall$Continuo" "MINOR" "[I") (.int 6)) (.int 10)) hgv (k := 39) rfl
    | j + 7, hj => exact absurd hj (by omega)
  obtain ⟨t7, T7, Z7⟩ := l_stT (N := 7) (f := (fun n => nI (v_sc false n))) (by decide) (l_nwb (w := .arrayOf (.static "Rankhall$Continuo" "MINOR" "[I") .int) hgv (k := 31) rfl) (l_nwb (w := .eq (.length (.static "Rankhall$Continuo" "MINOR" "[I")) (.int 7)) hgv (k := 32) rfl) e7 (hlay 6 _ rfl).1 (hlay 6 _ rfl).2 hA
  obtain ⟨t8, ht8, T8⟩ := va_Tof (N := 0) (f := fun _ => Value.null) (A := fun q => s.heap.size ≤ q) (by decide) (l_nwb (w := .arrayOf (.static "java/util/ArrayList" "DEFAULTCAPACITY_EMPTY_ELEMENTDATA" "[Ljava/lang/Object;") (.object "java/lang/Object")) hgv (k := 40) rfl) (va_eqt (l_nwb (w := .eq (.length (.static "java/util/ArrayList" "DEFAULTCAPACITY_EMPTY_ELEMENTDATA" "[Ljava/lang/Object;")) (.int 0)) hgv (k := 41) rfl)) (fun j hj => absurd hj (Nat.not_lt_zero j)) hA
  have Z8 := va_Zref (hlay 7 _ rfl).1 (hlay 7 _ rfl).2 ht8 hA
  obtain ⟨mi, hmi⟩ := va_Mi.of (l_nwb (w := .isRef (.mirror "[Ljava/lang/Object;")) hgv (k := 44) rfl)
  have hini : (Cond.initialized "java/lang/Throwable").before #[Value.ref b] s = true := hts _ (e_tb_in (p := 51) (by decide +kernel))
  have y0 : ∃ adK adV : Nat, va_O "java/lang/String" adK (fun q => s.heap.size ≤ q) s s.heap ∧ va_OF "java/lang/String" "coder" "B" (.int 0) adK (fun q => s.heap.size ≤ q) s s.heap ∧ va_OF "java/lang/String" "value" "[B" (.ref adV) adK (fun q => s.heap.size ≤ q) s s.heap ∧ va_T .byte adV (e_SLen.getD 0 0) (fun j => .int ((e_SByt.getD 0 []).getD j 0)) (fun q => s.heap.size ≤ q) s s.heap ∧ Term.eval #[Value.ref b] s none [] s (.string "RankhallLaw" 254) = some (.ref adK) := by
    obtain ⟨aK, aV, hS, hv⟩ := vk_Sof (args := #[Value.ref b]) (s := s) (N := 1) (tm := fun _ => .string "RankhallLaw" 254) (len := [4]) (byt := [[38, 124, 94, 33]]) (A := fun q => s.heap.size ≤ q) (fun i hi => by
      match i, hi with
      | 0, _ => decide
      | i + 1, hi => exact absurd hi (by omega)) (fun i hi => (l_nwb (w := .exactly (.string "RankhallLaw" 254) "java/lang/String") hgv (k := 47) rfl)) (fun i hi => (l_nwb (w := .eq (.field (.string "RankhallLaw" 254) "java/lang/String" "coder" "B") (.int 0)) hgv (k := 48) rfl)) (fun i hi => (l_nwb (w := .arrayOf (.field (.string "RankhallLaw" 254) "java/lang/String" "value" "[B") .byte) hgv (k := 49) rfl)) (fun i hi => by
      match i, hi with
      | 0, _ => exact (l_nwb (w := .eq (.length (.field (.string "RankhallLaw" 254) "java/lang/String" "value" "[B")) (.int 4)) hgv (k := 50) rfl)
      | i + 1, hi => exact absurd hi (by omega)) (fun i hi j hj => by
      match i, hi with
      | 0, _ =>
        have hj : j < 4 := hj
        match j, hj with
        | 0, _ => exact (l_nwb (w := .eq (.elem (.field (.string "RankhallLaw" 254) "java/lang/String" "value" "[B") (.int 0)) (.int 38)) hgv (k := 51) rfl)
        | 1, _ => exact (l_nwb (w := .eq (.elem (.field (.string "RankhallLaw" 254) "java/lang/String" "value" "[B") (.int 1)) (.int 124)) hgv (k := 52) rfl)
        | 2, _ => exact (l_nwb (w := .eq (.elem (.field (.string "RankhallLaw" 254) "java/lang/String" "value" "[B") (.int 2)) (.int 94)) hgv (k := 53) rfl)
        | 3, _ => exact (l_nwb (w := .eq (.elem (.field (.string "RankhallLaw" 254) "java/lang/String" "value" "[B") (.int 3)) (.int 33)) hgv (k := 54) rfl)
        | j + 4, hj => exact absurd hj (by omega)
      | i + 1, hi => exact absurd hi (by omega)) (fun i j hi hj hij => absurd (show i = j by omega) hij) hA
    obtain ⟨h1, h2, h3, h4⟩ := hS.1 0 (by decide)
    exact ⟨aK 0, aV 0, h1, h2, h3, h4, hv 0 (by decide)⟩
  obtain ⟨k0, v0, y0⟩ := y0
  have y1 : ∃ adK adV : Nat, va_O "java/lang/String" adK (fun q => s.heap.size ≤ q) s s.heap ∧ va_OF "java/lang/String" "coder" "B" (.int 0) adK (fun q => s.heap.size ≤ q) s s.heap ∧ va_OF "java/lang/String" "value" "[B" (.ref adV) adK (fun q => s.heap.size ≤ q) s s.heap ∧ va_T .byte adV (e_SLen.getD 1 0) (fun j => .int ((e_SByt.getD 1 []).getD j 0)) (fun q => s.heap.size ≤ q) s s.heap ∧ Term.eval #[Value.ref b] s none [] s (.string "RankhallLaw" 267) = some (.ref adK) := by
    obtain ⟨aK, aV, hS, hv⟩ := vk_Sof (args := #[Value.ref b]) (s := s) (N := 1) (tm := fun _ => .string "RankhallLaw" 267) (len := [4]) (byt := [[53, 54, 52, 55]]) (A := fun q => s.heap.size ≤ q) (fun i hi => by
      match i, hi with
      | 0, _ => decide
      | i + 1, hi => exact absurd hi (by omega)) (fun i hi => (l_nwb (w := .exactly (.string "RankhallLaw" 267) "java/lang/String") hgv (k := 55) rfl)) (fun i hi => (l_nwb (w := .eq (.field (.string "RankhallLaw" 267) "java/lang/String" "coder" "B") (.int 0)) hgv (k := 56) rfl)) (fun i hi => (l_nwb (w := .arrayOf (.field (.string "RankhallLaw" 267) "java/lang/String" "value" "[B") .byte) hgv (k := 57) rfl)) (fun i hi => by
      match i, hi with
      | 0, _ => exact (l_nwb (w := .eq (.length (.field (.string "RankhallLaw" 267) "java/lang/String" "value" "[B")) (.int 4)) hgv (k := 58) rfl)
      | i + 1, hi => exact absurd hi (by omega)) (fun i hi j hj => by
      match i, hi with
      | 0, _ =>
        have hj : j < 4 := hj
        match j, hj with
        | 0, _ => exact (l_nwb (w := .eq (.elem (.field (.string "RankhallLaw" 267) "java/lang/String" "value" "[B") (.int 0)) (.int 53)) hgv (k := 59) rfl)
        | 1, _ => exact (l_nwb (w := .eq (.elem (.field (.string "RankhallLaw" 267) "java/lang/String" "value" "[B") (.int 1)) (.int 54)) hgv (k := 60) rfl)
        | 2, _ => exact (l_nwb (w := .eq (.elem (.field (.string "RankhallLaw" 267) "java/lang/String" "value" "[B") (.int 2)) (.int 52)) hgv (k := 61) rfl)
        | 3, _ => exact (l_nwb (w := .eq (.elem (.field (.string "RankhallLaw" 267) "java/lang/String" "value" "[B") (.int 3)) (.int 55)) hgv (k := 62) rfl)
        | j + 4, hj => exact absurd hj (by omega)
      | i + 1, hi => exact absurd hi (by omega)) (fun i j hi hj hij => absurd (show i = j by omega) hij) hA
    obtain ⟨h1, h2, h3, h4⟩ := hS.1 0 (by decide)
    exact ⟨aK 0, aV 0, h1, h2, h3, h4, hv 0 (by decide)⟩
  obtain ⟨k1, v1, y1⟩ := y1
  have y2 : ∃ adK adV : Nat, va_O "java/lang/String" adK (fun q => s.heap.size ≤ q) s s.heap ∧ va_OF "java/lang/String" "coder" "B" (.int 0) adK (fun q => s.heap.size ≤ q) s s.heap ∧ va_OF "java/lang/String" "value" "[B" (.ref adV) adK (fun q => s.heap.size ≤ q) s s.heap ∧ va_T .byte adV (e_SLen.getD 2 0) (fun j => .int ((e_SByt.getD 2 []).getD j 0)) (fun q => s.heap.size ≤ q) s s.heap ∧ Term.eval #[Value.ref b] s none [] s (.string "RankhallLaw" 272) = some (.ref adK) := by
    obtain ⟨aK, aV, hS, hv⟩ := vk_Sof (args := #[Value.ref b]) (s := s) (N := 1) (tm := fun _ => .string "RankhallLaw" 272) (len := [3]) (byt := [[107, 114, 45]]) (A := fun q => s.heap.size ≤ q) (fun i hi => by
      match i, hi with
      | 0, _ => decide
      | i + 1, hi => exact absurd hi (by omega)) (fun i hi => (l_nwb (w := .exactly (.string "RankhallLaw" 272) "java/lang/String") hgv (k := 63) rfl)) (fun i hi => (l_nwb (w := .eq (.field (.string "RankhallLaw" 272) "java/lang/String" "coder" "B") (.int 0)) hgv (k := 64) rfl)) (fun i hi => (l_nwb (w := .arrayOf (.field (.string "RankhallLaw" 272) "java/lang/String" "value" "[B") .byte) hgv (k := 65) rfl)) (fun i hi => by
      match i, hi with
      | 0, _ => exact (l_nwb (w := .eq (.length (.field (.string "RankhallLaw" 272) "java/lang/String" "value" "[B")) (.int 3)) hgv (k := 66) rfl)
      | i + 1, hi => exact absurd hi (by omega)) (fun i hi j hj => by
      match i, hi with
      | 0, _ =>
        have hj : j < 3 := hj
        match j, hj with
        | 0, _ => exact (l_nwb (w := .eq (.elem (.field (.string "RankhallLaw" 272) "java/lang/String" "value" "[B") (.int 0)) (.int 107)) hgv (k := 67) rfl)
        | 1, _ => exact (l_nwb (w := .eq (.elem (.field (.string "RankhallLaw" 272) "java/lang/String" "value" "[B") (.int 1)) (.int 114)) hgv (k := 68) rfl)
        | 2, _ => exact (l_nwb (w := .eq (.elem (.field (.string "RankhallLaw" 272) "java/lang/String" "value" "[B") (.int 2)) (.int 45)) hgv (k := 69) rfl)
        | j + 3, hj => exact absurd hj (by omega)
      | i + 1, hi => exact absurd hi (by omega)) (fun i j hi hj hij => absurd (show i = j by omega) hij) hA
    obtain ⟨h1, h2, h3, h4⟩ := hS.1 0 (by decide)
    exact ⟨aK 0, aV 0, h1, h2, h3, h4, hv 0 (by decide)⟩
  obtain ⟨k2, v2, y2⟩ := y2
  have y3 : ∃ adK adV : Nat, va_O "java/lang/String" adK (fun q => s.heap.size ≤ q) s s.heap ∧ va_OF "java/lang/String" "coder" "B" (.int 0) adK (fun q => s.heap.size ≤ q) s s.heap ∧ va_OF "java/lang/String" "value" "[B" (.ref adV) adK (fun q => s.heap.size ≤ q) s s.heap ∧ va_T .byte adV (e_SLen.getD 3 0) (fun j => .int ((e_SByt.getD 3 []).getD j 0)) (fun q => s.heap.size ≤ q) s s.heap ∧ Term.eval #[Value.ref b] s none [] s (.string "RankhallLaw" 283) = some (.ref adK) := by
    obtain ⟨aK, aV, hS, hv⟩ := vk_Sof (args := #[Value.ref b]) (s := s) (N := 1) (tm := fun _ => .string "RankhallLaw" 283) (len := [3]) (byt := [[99, 100, 45]]) (A := fun q => s.heap.size ≤ q) (fun i hi => by
      match i, hi with
      | 0, _ => decide
      | i + 1, hi => exact absurd hi (by omega)) (fun i hi => (l_nwb (w := .exactly (.string "RankhallLaw" 283) "java/lang/String") hgv (k := 70) rfl)) (fun i hi => (l_nwb (w := .eq (.field (.string "RankhallLaw" 283) "java/lang/String" "coder" "B") (.int 0)) hgv (k := 71) rfl)) (fun i hi => (l_nwb (w := .arrayOf (.field (.string "RankhallLaw" 283) "java/lang/String" "value" "[B") .byte) hgv (k := 72) rfl)) (fun i hi => by
      match i, hi with
      | 0, _ => exact (l_nwb (w := .eq (.length (.field (.string "RankhallLaw" 283) "java/lang/String" "value" "[B")) (.int 3)) hgv (k := 73) rfl)
      | i + 1, hi => exact absurd hi (by omega)) (fun i hi j hj => by
      match i, hi with
      | 0, _ =>
        have hj : j < 3 := hj
        match j, hj with
        | 0, _ => exact (l_nwb (w := .eq (.elem (.field (.string "RankhallLaw" 283) "java/lang/String" "value" "[B") (.int 0)) (.int 99)) hgv (k := 74) rfl)
        | 1, _ => exact (l_nwb (w := .eq (.elem (.field (.string "RankhallLaw" 283) "java/lang/String" "value" "[B") (.int 1)) (.int 100)) hgv (k := 75) rfl)
        | 2, _ => exact (l_nwb (w := .eq (.elem (.field (.string "RankhallLaw" 283) "java/lang/String" "value" "[B") (.int 2)) (.int 45)) hgv (k := 76) rfl)
        | j + 3, hj => exact absurd hj (by omega)
      | i + 1, hi => exact absurd hi (by omega)) (fun i j hi hj hij => absurd (show i = j by omega) hij) hA
    obtain ⟨h1, h2, h3, h4⟩ := hS.1 0 (by decide)
    exact ⟨aK 0, aV 0, h1, h2, h3, h4, hv 0 (by decide)⟩
  obtain ⟨k3, v3, y3⟩ := y3
  have y4 : ∃ adK adV : Nat, va_O "java/lang/String" adK (fun q => s.heap.size ≤ q) s s.heap ∧ va_OF "java/lang/String" "coder" "B" (.int 0) adK (fun q => s.heap.size ≤ q) s s.heap ∧ va_OF "java/lang/String" "value" "[B" (.ref adV) adK (fun q => s.heap.size ≤ q) s s.heap ∧ va_T .byte adV (e_SLen.getD 4 0) (fun j => .int ((e_SByt.getD 4 []).getD j 0)) (fun q => s.heap.size ≤ q) s s.heap ∧ Term.eval #[Value.ref b] s none [] s (.string "RankhallLaw" 189) = some (.ref adK) := by
    obtain ⟨aK, aV, hS, hv⟩ := vk_Sof (args := #[Value.ref b]) (s := s) (N := 1) (tm := fun _ => .string "RankhallLaw" 189) (len := [4]) (byt := [[97, 109, 98, 112]]) (A := fun q => s.heap.size ≤ q) (fun i hi => by
      match i, hi with
      | 0, _ => decide
      | i + 1, hi => exact absurd hi (by omega)) (fun i hi => (l_nwb (w := .exactly (.string "RankhallLaw" 189) "java/lang/String") hgv (k := 77) rfl)) (fun i hi => (l_nwb (w := .eq (.field (.string "RankhallLaw" 189) "java/lang/String" "coder" "B") (.int 0)) hgv (k := 78) rfl)) (fun i hi => (l_nwb (w := .arrayOf (.field (.string "RankhallLaw" 189) "java/lang/String" "value" "[B") .byte) hgv (k := 79) rfl)) (fun i hi => by
      match i, hi with
      | 0, _ => exact (l_nwb (w := .eq (.length (.field (.string "RankhallLaw" 189) "java/lang/String" "value" "[B")) (.int 4)) hgv (k := 80) rfl)
      | i + 1, hi => exact absurd hi (by omega)) (fun i hi j hj => by
      match i, hi with
      | 0, _ =>
        have hj : j < 4 := hj
        match j, hj with
        | 0, _ => exact (l_nwb (w := .eq (.elem (.field (.string "RankhallLaw" 189) "java/lang/String" "value" "[B") (.int 0)) (.int 97)) hgv (k := 81) rfl)
        | 1, _ => exact (l_nwb (w := .eq (.elem (.field (.string "RankhallLaw" 189) "java/lang/String" "value" "[B") (.int 1)) (.int 109)) hgv (k := 82) rfl)
        | 2, _ => exact (l_nwb (w := .eq (.elem (.field (.string "RankhallLaw" 189) "java/lang/String" "value" "[B") (.int 2)) (.int 98)) hgv (k := 83) rfl)
        | 3, _ => exact (l_nwb (w := .eq (.elem (.field (.string "RankhallLaw" 189) "java/lang/String" "value" "[B") (.int 3)) (.int 112)) hgv (k := 84) rfl)
        | j + 4, hj => exact absurd hj (by omega)
      | i + 1, hi => exact absurd hi (by omega)) (fun i j hi hj hij => absurd (show i = j by omega) hij) hA
    obtain ⟨h1, h2, h3, h4⟩ := hS.1 0 (by decide)
    exact ⟨aK 0, aV 0, h1, h2, h3, h4, hv 0 (by decide)⟩
  obtain ⟨k4, v4, y4⟩ := y4
  have yC := va_Zof (C := "java/lang/String") (n := "COMPACT_STRINGS") (d := "Z") (A := fun q => s.heap.size ≤ q) (hts _ (e_tb_in (p := 1296) (by decide +kernel))) (hts _ (e_tb_in (p := 62) (by decide +kernel))) (va_eqt (l_nwb (w := .eq (.static "java/lang/String" "COMPACT_STRINGS" "Z") (.int 1)) hgv (k := 45) rfl)) hA
  have yP : ∃ f20 : Nat, va_Z "jdk/internal/util/Preconditions" "SIOOBE_FORMATTER" "Ljava/util/function/BiFunction;" (.ref f20) (fun q => s.heap.size ≤ q) s s.heap ∨ va_Z "jdk/internal/util/Preconditions" "SIOOBE_FORMATTER" "Ljava/util/function/BiFunction;" .null (fun q => s.heap.size ≤ q) s s.heap := by
    rcases va_Zqof (C := "jdk/internal/util/Preconditions") (n := "SIOOBE_FORMATTER") (d := "Ljava/util/function/BiFunction;") (hts _ (e_tb_in (p := 1304) (by decide +kernel))) (hts _ (e_tb_in (p := 59) (by decide +kernel))) (l_nwb (w := .isRef (.static "jdk/internal/util/Preconditions" "SIOOBE_FORMATTER" "Ljava/util/function/BiFunction;")) hgv (k := 46) rfl) hA with h | ⟨t, h⟩
    · exact ⟨0, .inr h⟩
    · exact ⟨t, .inl h⟩
  obtain ⟨f20, yP⟩ := yP
  obtain ⟨scr, x1, x2, x3, x4, x5⟩ := hX
  have T0 : va_T .int b L (fun j => .int (xs j)) (fun q => s.heap.size ≤ q) s s.heap := ⟨scr, x1, x2, x3, Nat.le_of_eq x4.symm, by rw [x4], x5, Nat.not_le.mpr hbl⟩
  refine ⟨D, cA, fun k => match k with | 0 => b | 1 => t1 | 2 => t2 | 3 => t3 | 4 => t4 | 5 => t5 | 6 => t6 | 7 => t7 | 8 => t8 | 9 => mi | 10 => k0 | 11 => k1 | 12 => k2 | 13 => k3 | 14 => k4 | 15 => v0 | 16 => v1 | 17 => v2 | 18 => v3 | 19 => v4 | 20 => f20 | _ => mi, ⟨⟨hK, fun w hw => va_Nw.of ?_ (hts w (List.mem_filter.mp hw).1), ⟨va_AO.of (hts _ (e_tb_in (p := 270) (by decide +kernel))), va_AO.of (hts _ (e_tb_in (p := 705) (by decide +kernel)))⟩, fun x hx => ?_, ⟨rfl, T8⟩, fun x hx1 hx8 => ?_, ⟨l_zq (hts _ (e_tb_in (p := 631) (by decide +kernel))) hini (l_nwb (w := .isRef (.static "java/lang/Throwable" "UNASSIGNED_STACK" "[Ljava/lang/StackTraceElement;")) hgv (k := 42) rfl) hA, l_zq (hts _ (e_tb_in (p := 633) (by decide +kernel))) hini (l_nwb (w := .isRef (.static "java/lang/Throwable" "SUPPRESSED_SENTINEL" "Ljava/util/List;")) hgv (k := 43) rfl) hA⟩, fun q hq => ?_, fun _ h => h⟩, fun i j hi hj hij => ?_, hmi, va_Dc.of (hts _ (e_tb_in (p := 1790) (by decide +kernel))), ⟨⟨fun i hi => ?_, fun i j hi hj hij => ?_⟩, fun i hi => ?_, yC, yP⟩⟩, rfl⟩
  · have h := (List.mem_filter.mp hw).2
    unfold e_isN at h
    split at h
    · rfl
    · rfl
    · rfl
    · rfl
    · cases h
  · rcases (show x = 0 ∨ x = 1 ∨ x = 2 ∨ x = 3 ∨ x = 4 ∨ x = 5 ∨ x = 6 ∨ x = 7 by omega) with z | z | z | z | z | z | z | z <;> rw [z]
    · exact T0
    · exact T1
    · exact T2
    · exact T3
    · exact T4
    · exact T5
    · exact T6
    · exact T7
  · rcases (show x = 1 ∨ x = 2 ∨ x = 3 ∨ x = 4 ∨ x = 5 ∨ x = 6 ∨ x = 7 ∨ x = 8 by omega) with z | z | z | z | z | z | z | z <;> rw [z]
    · exact Z1
    · exact Z2
    · exact Z3
    · exact Z4
    · exact Z5
    · exact Z6
    · exact Z7
    · exact Z8
  · obtain ⟨r, hr, hr9⟩ := List.any_eq_true.mp (List.all_eq_true.mp l_sp_all q hq)
    have g := of_decide_eq_true (List.all_eq_true.mp l_sp_ok r hr)
    rw [of_decide_eq_true hr9] at g
    obtain ⟨a, c, cell, k, q1, -⟩ := Cond.exactly_spec (l_gv hgv g)
    exact ⟨a, vk_R.of (hts _ (e_tb_in (of_decide_eq_true (List.all_eq_true.mp l_tx_ok q hq)))) q1⟩
  · have g := List.all_eq_true.mp (List.all_eq_true.mp l_cp_all i (List.mem_range.mpr hi)) j (List.mem_range.mpr hj)
    rcases (Bool.or_eq_true _ _).mp g with g | g
    · exact absurd (of_decide_eq_true g) hij
    · obtain ⟨q, hq, hq9⟩ := List.any_eq_true.mp g
      rw [Bool.and_eq_true] at hq9
      have g2 := of_decide_eq_true (List.all_eq_true.mp l_cp_ok q hq)
      rw [of_decide_eq_true hq9.1, of_decide_eq_true hq9.2] at g2
      exact va_Nc.of (l_gv hgv g2)
  · match i, hi with
    | 0, _ => exact ⟨y0.1, y0.2.1, y0.2.2.1, y0.2.2.2.1⟩
    | 1, _ => exact ⟨y1.1, y1.2.1, y1.2.2.1, y1.2.2.2.1⟩
    | 2, _ => exact ⟨y2.1, y2.2.1, y2.2.2.1, y2.2.2.2.1⟩
    | 3, _ => exact ⟨y3.1, y3.2.1, y3.2.2.1, y3.2.2.2.1⟩
    | 4, _ => exact ⟨y4.1, y4.2.1, y4.2.2.1, y4.2.2.2.1⟩
    | i + 5, hi => exact absurd hi (by omega)
  · match i, hi, j, hj with
    | 0, _, 0, _ => rfl
    | 0, _, 1, _ => exact absurd hij (l_difS y0.2.2.1 y1.2.2.1 y0.2.2.2.1 y1.2.2.2.1 (by decide) (by decide) (by decide))
    | 0, _, 2, _ => exact absurd hij (l_difS y0.2.2.1 y2.2.2.1 y0.2.2.2.1 y2.2.2.2.1 (by decide) (by decide) (by decide))
    | 0, _, 3, _ => exact absurd hij (l_difS y0.2.2.1 y3.2.2.1 y0.2.2.2.1 y3.2.2.2.1 (by decide) (by decide) (by decide))
    | 0, _, 4, _ => exact absurd hij (l_difS y0.2.2.1 y4.2.2.1 y0.2.2.2.1 y4.2.2.2.1 (by decide) (by decide) (by decide))
    | 1, _, 0, _ => exact absurd hij (l_difS y1.2.2.1 y0.2.2.1 y1.2.2.2.1 y0.2.2.2.1 (by decide) (by decide) (by decide))
    | 1, _, 1, _ => rfl
    | 1, _, 2, _ => exact absurd hij (l_difS y1.2.2.1 y2.2.2.1 y1.2.2.2.1 y2.2.2.2.1 (by decide) (by decide) (by decide))
    | 1, _, 3, _ => exact absurd hij (l_difS y1.2.2.1 y3.2.2.1 y1.2.2.2.1 y3.2.2.2.1 (by decide) (by decide) (by decide))
    | 1, _, 4, _ => exact absurd hij (l_difS y1.2.2.1 y4.2.2.1 y1.2.2.2.1 y4.2.2.2.1 (by decide) (by decide) (by decide))
    | 2, _, 0, _ => exact absurd hij (l_difS y2.2.2.1 y0.2.2.1 y2.2.2.2.1 y0.2.2.2.1 (by decide) (by decide) (by decide))
    | 2, _, 1, _ => exact absurd hij (l_difS y2.2.2.1 y1.2.2.1 y2.2.2.2.1 y1.2.2.2.1 (by decide) (by decide) (by decide))
    | 2, _, 2, _ => rfl
    | 2, _, 3, _ => exact absurd hij (l_difS y2.2.2.1 y3.2.2.1 y2.2.2.2.1 y3.2.2.2.1 (by decide) (by decide) (by decide))
    | 2, _, 4, _ => exact absurd hij (l_difS y2.2.2.1 y4.2.2.1 y2.2.2.2.1 y4.2.2.2.1 (by decide) (by decide) (by decide))
    | 3, _, 0, _ => exact absurd hij (l_difS y3.2.2.1 y0.2.2.1 y3.2.2.2.1 y0.2.2.2.1 (by decide) (by decide) (by decide))
    | 3, _, 1, _ => exact absurd hij (l_difS y3.2.2.1 y1.2.2.1 y3.2.2.2.1 y1.2.2.2.1 (by decide) (by decide) (by decide))
    | 3, _, 2, _ => exact absurd hij (l_difS y3.2.2.1 y2.2.2.1 y3.2.2.2.1 y2.2.2.2.1 (by decide) (by decide) (by decide))
    | 3, _, 3, _ => rfl
    | 3, _, 4, _ => exact absurd hij (l_difS y3.2.2.1 y4.2.2.1 y3.2.2.2.1 y4.2.2.2.1 (by decide) (by decide) (by decide))
    | 4, _, 0, _ => exact absurd hij (l_difS y4.2.2.1 y0.2.2.1 y4.2.2.2.1 y0.2.2.2.1 (by decide) (by decide) (by decide))
    | 4, _, 1, _ => exact absurd hij (l_difS y4.2.2.1 y1.2.2.1 y4.2.2.2.1 y1.2.2.2.1 (by decide) (by decide) (by decide))
    | 4, _, 2, _ => exact absurd hij (l_difS y4.2.2.1 y2.2.2.1 y4.2.2.2.1 y2.2.2.2.1 (by decide) (by decide) (by decide))
    | 4, _, 3, _ => exact absurd hij (l_difS y4.2.2.1 y3.2.2.1 y4.2.2.2.1 y3.2.2.2.1 (by decide) (by decide) (by decide))
    | 4, _, 4, _ => rfl
    | i + 5, hi, _, _ => exact absurd hi (by omega)
    | _, _, j + 5, hj => exact absurd hj (by omega)
  · match i, hi with
    | 0, _ => exact vk_R.of (hts (.stringRef "RankhallLaw" 254 "&|^!") (e_tb_in (p := 1286) (by decide +kernel))) y0.2.2.2.2
    | 1, _ => exact vk_R.of (hts (.stringRef "RankhallLaw" 267 "5647") (e_tb_in (p := 1388) (by decide +kernel))) y1.2.2.2.2
    | 2, _ => exact vk_R.of (hts (.stringRef "RankhallLaw" 272 "kr-") (e_tb_in (p := 1466) (by decide +kernel))) y2.2.2.2.2
    | 3, _ => exact vk_R.of (hts (.stringRef "RankhallLaw" 283 "cd-") (e_tb_in (p := 1519) (by decide +kernel))) y3.2.2.2.2
    | 4, _ => exact vk_R.of (hts (.stringRef "RankhallLaw" 189 "ambp") (e_tb_in (p := 1763) (by decide +kernel))) y4.2.2.2.2
    | i + 5, hi => exact absurd hi (by omega)
def R_law : String := "RankhallLaw"
def lw_P (b : Addr) (xs : List Int32) (args : Array Value) (s : State) : Prop := args = #[.ref b] ∧ s.IntsAt b xs ∧ xs.length ≤ 260 ∧ (Jvm.Cond.and given_1 narrow_1).before args s = true
/-- what a walk over the start with the record d0 says of its end, said of the start itself -/
theorem lw_closed {s t : State} {o : Outcome} {d0 : Drawn} {L : List Loc} {k n : Nat} (hd0 : s.drawn.sameBut d0 lw_cs) (hv : ∃ v, o = .returned v) (hW : (s.setDrawn d0).WarmedH t.vm) (hs : (s.setDrawn d0).sameButNew ({ t with vm := s.vm } : State) L k n) : State.butDraws s t lw_cs (fun t1 => Framed s o t1 L k n) := by
  have h2 : t.drawn = d0 := congrArg State.drawn hs.1
  refine ⟨⟨hv, hW, State.sameButNew.setDrawn hs s.drawn⟩, ?_, by decide⟩
  rw [h2]
  exact hd0
def lw_Q (_ : Array Value) (s : State) (o : Outcome) (t : State) : Prop := o = .returned (some (.int 1)) ∧ State.butDraws s t lw_cs (fun t1 => Framed s o t1 [] 600192 7295616)
def lw_Z (below : List Frame) (a : Array Value) (s : State) : State → Prop := fun t => ∃ o, t.status = .running ∧ Ended t below o ∧ lw_Q a s o t
/-- the law's own end, with 1 on the stack, nothing written that was there before, its room as the claim has it; d0: the record of draws at this point (at the entry s.drawn: begin with 'refine W.base ?_' and 'have hd0 := Drawn.sameBut.refl s.drawn lw_cs') -/
theorem lw_ret {p : Program} {l : Launch} {e : Env} {s : State} {m : MethodId} {below : List Frame} {meth : Method} {c : Code} {b : Nat} {d0 : Drawn} (hd0 : s.drawn.sameBut d0 lw_cs) (hx : p.tables.exec = Jvm.exec) (hb : c.code = code) (hr : meth.sig.returnType = ret) (hlocks : meth.locks = false) {pc : Nat} {H : Heap} {ls : Array Slot} (hdg : decode code pc = .ok (.ireturn, 1)) : W p l e room_1 (s.setDrawn d0) m #[Value.ref b] below meth c H [] 600192 7295616 (lw_Z below #[Value.ref b] s) (F0 m pc ls [.int 1]) := by
  intro T hT X
  obtain ⟨fs, hret, hrun, hended, hW, hframe⟩ := X.leave (v := some (.int 1)) (hlocks := hlocks) (fun h => by rw [hr] at h; cases h)
  have hmeth' : T.vm.method? m = some meth := X.method'
  refine ⟨T.setFrames fs, ?_, .returned (some (.int 1)), hrun, hended, rfl, lw_closed hd0 ⟨_, rfl⟩ hW hframe⟩
  jvm_step X.here [X.here.top, hx, hb, hdg, hmeth', hr, ret, narrow_b1]
  (try refine ⟨rfl, ?_⟩); (try refine ⟨rfl, ?_⟩)
  first | (intro acts; rw [hret _ acts rfl rfl rfl]) | rw [hret _ _ rfl rfl rfl]
  exact Steps.refl _
/-- what holds at the law's entry: the machine, the code, the tables' words (any of lw_tbl by 'hts w (by decide +kernel)'), the script of L ints xs at the cell b, what the Statement gives of the start (any of its parts by flat_of_before) -/
def lw_At (p : Program) (s : State) (m : MethodId) (meth : Method) (c : Code) (b L : Nat) (xs : Nat → Int32) : Prop :=
  p.tables.exec = Jvm.exec ∧ c.code = code ∧ meth.sig.returnType = ret ∧ c.maxLocals = 7 ∧ s.vm.findClass R_law = some m.cls ∧ (∀ w ∈ lw_tbl, w.before #[Value.ref b] s = true) ∧ va_X b L xs s s.heap ∧ b < s.heap.size ∧ meth.locks = false ∧ (Jvm.Cond.and given_1 narrow_1).before #[Value.ref b] s = true
/-- the empty heap -/
def l_h0 : e_Hp := ((0, 0, 0), fun _ => (0, 0), fun _ _ => .null)
theorem l_h0is : s_is (l_p0, v_o, v_oJ, (0, 0), fun _ => none) l_h0 := by
  have hv : ∀ t i, ¬ l_p0.2.1 t i = true := fun t i z => by cases z
  refine ⟨⟨fun t i h => absurd h (hv t i), fun F i _ h => absurd h (hv _ _), fun F i _ h => absurd h (hv _ _), fun G i _ h => absurd h (hv _ _), fun l j h _ => absurd h (hv _ _), fun r h => absurd h (hv _ _), fun k h => absurd h (hv _ _)⟩, ⟨rfl, rfl, Nat.le_refl _⟩, fun a o h => by cases h⟩
theorem l_walk {L : Nat} {xs : Nat → Int32} (hL : L ≤ 260) : s_w (l_XX L xs) 14 K_L_law 0 (e_ent0 [.ref (e_xb + 0)] 7) [] (l_p0, v_o, v_oJ, (0, 0), fun _ => none) (fun r S => r = .inl (some (.int 1)) ∧ S.2.2.2.1.1 ≤ 600192 ∧ S.2.2.2.1.2 ≤ 7295616) := by
  have hn : (l_XX L xs 0).1 < 2147483648 := by
    show L < 2147483648
    omega
  have h := law_all (X := l_XX L xs) (d := 0) rfl hn (l_XXX L xs)
  intro hp hs
  obtain ⟨r, h', S', ⟨hr, T, e, ax, hO, hT, he⟩, z, c⟩ := h hp hs
  refine ⟨r, h', S', ⟨hr, ?_⟩, z, c⟩
  obtain ⟨⟨np, -, -, ⟨a, b, hTp, ha, hb⟩, -⟩, -⟩ := hO
  obtain ⟨-, ⟨k, e1, hk, hc1, hc2, -, -⟩, -⟩ := hTp
  have hp2 : 2 ^ k ≤ 2 ^ 12 := Nat.pow_le_pow_right (by decide) hk
  have hp3 : (2 : Nat) ^ 12 = 4096 := by decide
  constructor <;> omega
theorem whole_start {p : Program} {e : Env} {s : State} {m : MethodId} {below : List Frame} {meth : Method} {c : Code} (l : Launch) (hflags : l.flags = flags0) {b L : Nat} {xs : Nat → Int32} (hL : L ≤ 260) (htab : c.exceptionTable.toList = []) (C0 : lw_At p s m meth c b L xs) : W p l e room_1 s m #[Value.ref b] below meth c s.heap [] 0 0 (lw_Z below #[Value.ref b] s) (entryFrame m ([Value.ref b] : List Value).toArray 7) := by
  obtain ⟨hx, hb, hr, hml, hown, hts, hX, hbl, hlocks, hgv⟩ := id C0
  obtain ⟨D, cA, ex, hSg, hex0⟩ := lw_facts hts hX hbl hgv
  obtain ⟨r, h', S', ⟨hr9, hc1, hc2⟩, hs', J⟩ := l_walk (xs := xs) hL l_h0 l_h0is
  subst hr9
  have hw0 : e_wh l_h0 := fun k i hk => absurd hk (Nat.not_lt_zero k)
  have hok : ∀ v ∈ [Value.ref (e_xb + 0)], e_okv (e_n l_h0) v := fun v hv k hk => by
    rw [List.mem_singleton.mp hv] at hk
    cases hk
    exact .inr (Nat.le_refl _)
  have hwf : e_wfs (e_n l_h0) (e_ent0 [.ref (e_xb + 0)] 7) [] := ⟨fun _ hv => (by cases hv), fun j v hv => hok v (e_slx_mem (List.mem_of_getElem? (e_ent0_ld hv)))⟩
  obtain ⟨g, k⟩ := J hw0 hwf
  have hst : l.stackTraces = false := by
    unfold Launch.stackTraces
    rw [hflags]
    decide
  have C : e_Cf K_L_law D cA (l_XX L xs) ex (fun q : Nat => s.heap.size ≤ q) p l s m #[Value.ref b] meth c := ⟨⟨hx, hb, by decide, hown, fun z => (by cases z), fun w hw => hts w (List.mem_filter.mp hw).1, hSg.1⟩, hSg, hml, hlocks, htab, hst⟩
  have hcc : e_c h' = S'.2.2.2.1.1 := hs'.2.1.1
  have hss : e_s h' = S'.2.2.2.1.2 := hs'.2.1.2.1
  have hex : ∀ x, x < 22 → (fun k => ex (k - e_xb)) (e_xb + x) = ex x := fun x _ => by
    show ex (e_xb + x - e_xb) = ex x
    rw [Nat.add_sub_cancel_left]
  have hP : va_P D vwCl (e_wd cA (fun k => ex (k - e_xb)) l_h0) s.heap := fun k q hq => by cases hq
  have hD : va_D (fun q : Nat => s.heap.size ≤ q) (e_wd cA (fun k => ex (k - e_xb)) l_h0) := ⟨fun i j p q hp => (by cases hp), fun k q hq => (by cases hq)⟩
  have hlen : (e_slx [Value.ref (e_xb + 0)]).length ≤ 7 := by decide
  have hargs : ([Value.ref (e_xb + 0)].map (e_rl (fun k => ex (k - e_xb)))) = [Value.ref b] := by
    show [Value.ref (ex (e_xb + 0 - e_xb))] = _
    rw [Nat.add_sub_cancel_left, hex0]
  have hH := e_LH.ent (ad := fun k => ex (k - e_xb)) (args := [Value.ref (e_xb + 0)]) (n := 7) hlen
  rw [hargs] at hH
  rw [lg_entry_eq]
  refine k p l e room_1 s m #[Value.ref b] below meth c s.heap [] 0 0 (lw_Z below #[Value.ref b] s) (fun k => ex (k - e_xb)) _ D cA ex _ C (by decide) (by decide) hex hP hD va_S.rf hH ?_ ?_ ?_
  · show 0 + (e_c h' - 0) ≤ 600192
    omega
  · show 0 + (e_s h' - 0) ≤ 7295616
    omega
  · intro ad' H' locs' ls' pc' i hdg hi hag hP' hD' hS' hsz
    refine va_forget (fun q hq => hS'.2.2 q hq) ?_
    refine W.widen (k := 600192) (n := 7295616) (by show 0 + (e_c h' - 0) ≤ 600192; omega) (by show 0 + (e_s h' - 0) ≤ 7295616; omega) ?_
    unfold e_ri at hi
    split at hi <;> first
      | exact lw_ret (d0 := s.drawn) (Drawn.sameBut.refl s.drawn lw_cs) hx hb hr hlocks hdg
      | (rename_i e9; cases e9)
      | cases hi
set_option maxHeartbeats 4000000 in
theorem lw_walk (l : Launch) (hflags : l.flags = flags0) (b : Addr) (xs : List Int32) : MetFree l x (headSpec (Jvm.Cond.code x code maxLocals ret :: tables_1) room_1) (lw_P b xs) (fun _ _ _ _ _ => True) lw_Q := by
  refine MetFree.of_bodyS (code := code) (maxLocals := maxLocals) (ret := ret) (by decide) ?_ ?_
  · intro args s m h hn
    obtain ⟨meth, c, h1, h2, h3, h4, h5, h6, -, -⟩ := Cond.code_spec hn (atoms_spec (ws := Jvm.Cond.code x code maxLocals ret :: tables_1) h _ List.mem_cons_self)
    exact ⟨meth, c, h1, h2, h3, h4, h5, h6⟩
  · intro p e s m args below meth c s₁ B hml0 hP _
    obtain ⟨rfl, hx, hbd, hgv⟩ := hP
    obtain ⟨scr, harrAt, hlist, hof, hsmall⟩ := hx
    obtain ⟨hcb, hkn, -, -⟩ := State.arrayAt?_spec harrAt
    have hown : s.vm.findClass R_law = some m.cls := findClass_of_methodNamed B.named
    have hts0 : ∀ c ∈ (Jvm.Cond.code x code maxLocals ret :: tables_1), c.before #[Value.ref b] s = true := atoms_spec (ws := Jvm.Cond.code x code maxLocals ret :: tables_1) B.pre
    have hts : ∀ w ∈ lw_tbl, w.before #[Value.ref b] s = true := k2_hts_sels lw_privs (fun w hw => hts0 w (List.mem_cons_of_mem _ hw)) lw_privs_ok
    have hml : c.maxLocals = 7 := B.maxLocals_eq (hts0 _ List.mem_cons_self)
    have X₀ : Stand p l e room_1 s m #[Value.ref b] below meth c s₁ [] 0 0 := Stand.of_body B
    have hh0 : s₁.heap = s.heap := by rw [B.state]; rfl
    have htab : c.exceptionTable.toList = [] := by
      obtain ⟨meth9, c9, q1, q2, -, -, -, -, q7, -⟩ := Cond.code_spec B.named (hts0 _ List.mem_cons_self)
      cases Option.some.inj (q1.symm.trans B.method)
      cases Option.some.inj (q2.symm.trans X₀.code)
      rw [Array.isEmpty_iff.mp q7]
    have hsz : scr.slots.size = xs.length := by rw [← Array.length_toList, hlist, List.length_map]
    have hval : ∀ j : Nat, j < xs.length → scr.slots[j]? = some (.int (xs.getD j 0)) := fun j hj => by
      rw [← Array.getElem?_toList, hlist]
      simp [hj]
    have hbl : b < s.heap.size := (Array.getElem?_eq_some_iff.mp hcb).1
    have hX : va_X b xs.length (fun j => xs.getD j 0) s s.heap := ⟨scr, hcb, hof, hkn, hsz, hval⟩
    have K : W p l e room_1 s m #[Value.ref b] below meth c s₁.heap [] 0 0 (lw_Z below #[Value.ref b] s) (entryFrame m ([Value.ref b] : List Value).toArray 7) := by
      rw [hh0]
      exact whole_start l hflags hbd htab ⟨B.exec, B.bytes, B.returns, hml, hown, hts, hX, hbl, B.notSynchronized, hgv⟩
    obtain ⟨t, a1, o, b1, b2, b3⟩ := K s₁ rfl X₀
    exact ⟨t, o, a1, b1, b2, b3⟩
theorem lw_pre_spec {args : Array Value} {s : State} (h : (Jvm.Cond.and given_1 narrow_1).before args s = true) (hr : rest_1_c.before args s = true) : ∃ (b : Addr) (xs : List Int32), lw_P b xs args s := by
  have hs := flat_of_before _ h
  have hq := flat_of_before _ hr
  have hc : (Cond.count 1).before args s = true := hs _ (by decide +kernel)
  have harr : (Cond.arrayOf (.arg 0) .int).before args s = true := hs _ (by decide +kernel)
  have hle : (Cond.le (.length (.arg 0)) (.int 260)).before args s = true := hs _ (by decide +kernel)
  have hlen : (Cond.isInt (.length (.arg 0))).before args s = true := hq _ (by decide +kernel)
  have hall : (Cond.all (.arg 0) (.isInt (.elem (.arg 0) (.index 0)))).before args s = true := hq _ (by decide +kernel)
  obtain ⟨b, xs, hb, hx⟩ := State.ints_of_pre rfl harr hlen hall
  have hsm : xs.length < 2 ^ 31 := hx.choose_spec.2.2.2
  have hev : (Term.length (.arg 0)).eval args s none [] s = some (.int xs.length.toInt32) := hx.length_eval hb
  have hv := Cond.le_ints hev (show (Term.int 260).eval args s none [] s = some (.int 260) from rfl)
  have hd : xs.length.toInt32 ≤ 260 := by
    simpa [Cond.before, Cond.holds, hv] using hle
  have hN : xs.length ≤ 260 := (Int32.ofNat_le_ofNat hsm (by decide)).mp (show Int32.ofNat xs.length ≤ Int32.ofNat 260 from hd)
  exact ⟨b, xs, Cond.one_arg hc (show args[0]? = some (.ref b) from hb), hx, hN, h⟩
theorem lw_comes (l : Launch) (hflags : l.flags = flags0) : Comes l x (Jvm.Cond.code x code maxLocals ret :: tables_1) room_1 (fun tb e args s => Calls_1 tb e args s ∧ rest_1 tb e args s ∧ Pre_1 tb e args s)
    (fun _ _ args s o t => lw_Q args s o t) := by
  intro p e ha hc hk s m args below hf hfit hheap happ hpre
  obtain ⟨b, xs, hP⟩ := lw_pre_spec hpre.2.2 hpre.2.1
  obtain ⟨k, o, h1, h2, h3, hQ⟩ := lw_walk l hflags b xs p e ha hc hk s m args below hf ((Spec.applies_iff_loose hf).mp happ).1 hP trivial
  exact ⟨k, o, h1, h2, h3, hQ⟩
theorem lw_frame {s t : State} {o : Outcome} {args : Array Value} (h : State.butDraws s t lw_cs (fun t1 => Framed s o t1 [] 600192 7295616)) :
    State.butDraws s t [Jvm.Choice.named "NaN.bits"] (fun t1 => Framed s o t1 (fieldLocs frame_1_writes args s ++ arrayLocs frame_1_arrays args s ++ staticLocs frame_1_statics s) 600192 7295616) := h
theorem lw_limb (L : Cond) (hL : ∀ (args : Array Value) (s t : State), L.after args s (.returned (some (.int 1))) t = true) :
    ArmFor flags0 classFile x code maxLocals ret World_1 tables_1 room_1 Calls_1 rest_1 Pre_1
      (fun tb e a s o t => postC L tb e a s o t ∧ State.butDraws s t [Jvm.Choice.named "NaN.bits"] (fun t1 => Framed s o t1 (fieldLocs frame_1_writes a s ++ arrayLocs frame_1_arrays a s ++ staticLocs frame_1_statics s) 600192 7295616)) := by
  intro l hflags _ _ p e ha hc hk s m args below hf hfit hheap happ hpre
  obtain ⟨k, o, h1, h2, h3, rfl, hF⟩ := lw_comes l hflags p e ha hc hk s m args below hf hfit hheap happ hpre
  exact ⟨k, _, h1, h2, h3, hL args s _, lw_frame hF⟩
theorem i_vc : Claimed_1_1 ∧ Claimed_1_2 := ⟨lw_limb limb_1_1 (fun args s t => by simp [limb_1_1, Cond.after, Cond.holds, Cond.value]), lw_limb limb_1_2 (fun args s t => Cond.after_iff.mpr (by
  first | (rw [show limb_1_2 = Cond.eq .result (.int 1) from rfl, Cond.eq_ints (x := 1) (y := 1) rfl rfl]; simp; done) | (simp [limb_1_2, Cond.value, Term.eval]; done)))⟩
