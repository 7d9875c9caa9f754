/-! 99999999999999997: what holds at the start -/
abbrev l_GV : Cond := Jvm.Cond.and given_1 narrow_1
def l_nw : List (Nat × Cond) := [(11, .arrayOf (.static "Rankhall$Continuo" "FIFTH" "[I") .int),
  (12, .eq (.length (.static "Rankhall$Continuo" "FIFTH" "[I")) (.int 3)),
  (13, .eq (.elem (.static "Rankhall$Continuo" "FIFTH" "[I") (.int 0)) (.int 0)),
  (14, .eq (.elem (.static "Rankhall$Continuo" "FIFTH" "[I") (.int 1)) (.int 2)),
  (15, .eq (.elem (.static "Rankhall$Continuo" "FIFTH" "[I") (.int 2)) (.int 4)),
  (17, .arrayOf (.static "Rankhall$Continuo" "SIXTH" "[I") .int),
  (18, .eq (.length (.static "Rankhall$Continuo" "SIXTH" "[I")) (.int 3)),
  (19, .eq (.elem (.static "Rankhall$Continuo" "SIXTH" "[I") (.int 0)) (.int 0)),
  (20, .eq (.elem (.static "Rankhall$Continuo" "SIXTH" "[I") (.int 1)) (.int 2)),
  (21, .eq (.elem (.static "Rankhall$Continuo" "SIXTH" "[I") (.int 2)) (.int 5)),
  (23, .arrayOf (.static "Rankhall$Continuo" "FOURTH" "[I") .int),
  (24, .eq (.length (.static "Rankhall$Continuo" "FOURTH" "[I")) (.int 3)),
  (25, .eq (.elem (.static "Rankhall$Continuo" "FOURTH" "[I") (.int 0)) (.int 0)),
  (26, .eq (.elem (.static "Rankhall$Continuo" "FOURTH" "[I") (.int 1)) (.int 3)),
  (27, .eq (.elem (.static "Rankhall$Continuo" "FOURTH" "[I") (.int 2)) (.int 5)),
  (29, .arrayOf (.static "Rankhall$Continuo" "SEVENTH" "[I") .int),
  (30, .eq (.length (.static "Rankhall$Continuo" "SEVENTH" "[I")) (.int 3)),
  (31, .eq (.elem (.static "Rankhall$Continuo" "SEVENTH" "[I") (.int 0)) (.int 2)),
  (32, .eq (.elem (.static "Rankhall$Continuo" "SEVENTH" "[I") (.int 1)) (.int 4)),
  (33, .eq (.elem (.static "Rankhall$Continuo" "SEVENTH" "[I") (.int 2)) (.int 6)),
  (35, .arrayOf (.static "Rankhall$Continuo" "NONE" "[I") .int),
  (36, .eq (.length (.static "Rankhall$Continuo" "NONE" "[I")) (.int 0)),
  (38, .arrayOf (.static "Rankhall$Continuo" "MAJOR" "[I") .int),
  (39, .eq (.length (.static "Rankhall$Continuo" "MAJOR" "[I")) (.int 7)),
  (40, .eq (.elem (.static "Rankhall$Continuo" "MAJOR" "[I") (.int 0)) (.int 0)),
  (41, .eq (.elem (.static "Rankhall$Continuo" "MAJOR" "[I") (.int 1)) (.int 2)),
  (42, .eq (.elem (.static "Rankhall$Continuo" "MAJOR" "[I") (.int 2)) (.int 4)),
  (43, .eq (.elem (.static "Rankhall$Continuo" "MAJOR" "[I") (.int 3)) (.int 5)),
  (44, .eq (.elem (.static "Rankhall$Continuo" "MAJOR" "[I") (.int 4)) (.int 7)),
  (45, .eq (.elem (.static "Rankhall$Continuo" "MAJOR" "[I") (.int 5)) (.int 9)),
  (46, .eq (.elem (.static "Rankhall$Continuo" "MAJOR" "[I") (.int 6)) (.int 11)),
  (48, .arrayOf (.static "Rankhall$Continuo" "MINOR" "[I") .int),
  (49, .eq (.length (.static "Rankhall$Continuo" "MINOR" "[I")) (.int 7)),
  (50, .eq (.elem (.static "Rankhall$Continuo" "MINOR" "[I") (.int 0)) (.int 0)),
  (51, .eq (.elem (.static "Rankhall$Continuo" "MINOR" "[I") (.int 1)) (.int 2)),
  (52, .eq (.elem (.static "Rankhall$Continuo" "MINOR" "[I") (.int 2)) (.int 3)),
  (53, .eq (.elem (.static "Rankhall$Continuo" "MINOR" "[I") (.int 3)) (.int 5)),
  (54, .eq (.elem (.static "Rankhall$Continuo" "MINOR" "[I") (.int 4)) (.int 7)),
  (55, .eq (.elem (.static "Rankhall$Continuo" "MINOR" "[I") (.int 5)) (.int 8)),
  (56, .eq (.elem (.static "Rankhall$Continuo" "MINOR" "[I") (.int 6)) (.int 10)),
  (5, .arrayOf (.static "java/util/ArrayList" "DEFAULTCAPACITY_EMPTY_ELEMENTDATA" "[Ljava/lang/Object;") (.object "java/lang/Object")),
  (7, .eq (.length (.static "java/util/ArrayList" "DEFAULTCAPACITY_EMPTY_ELEMENTDATA" "[Ljava/lang/Object;")) (.int 0)),
  (8, .isRef (.static "java/lang/Throwable" "UNASSIGNED_STACK" "[Ljava/lang/StackTraceElement;")),
  (9, .isRef (.static "java/lang/Throwable" "SUPPRESSED_SENTINEL" "Ljava/util/List;")),
  (450, .isRef (.mirror "[Ljava/lang/Object;"))]
def l_cp : List (Nat × Nat × Nat) := [(0, 1, 307), (0, 2, 333), (0, 3, 358), (0, 4, 384), (0, 5, 410), (1, 0, 281), (1, 2, 334), (1, 3, 359), (1, 4, 385), (1, 5, 411), (2, 0, 287), (2, 1, 313), (2, 3, 365), (2, 4, 391), (2, 5, 417), (3, 0, 289), (3, 1, 315), (3, 2, 340), (3, 4, 393), (3, 5, 419), (4, 0, 290), (4, 1, 316), (4, 2, 341), (4, 3, 367), (4, 5, 420), (5, 0, 293), (5, 1, 319), (5, 2, 344), (5, 3, 370), (5, 4, 396)]
def l_sp : List (Nat × Nat) := [(494, 451), (61, 479), (487, 501), (512, 521), (514, 543), (525, 559), (520, 575), (125, 600), (132, 623), (142, 649), (492, 668), (530, 695), (258, 725), (507, 742), (500, 781), (319, 811), (498, 851), (344, 873), (357, 917), (360, 934), (502, 957), (496, 974), (386, 991), (388, 1028), (400, 1053), (413, 1080), (450, 1104), (457, 1122), (473, 1153), (476, 1175)]
set_option maxRecDepth 100000 in
theorem l_nw_ok : (l_nw.all fun q => decide ((flatC l_GV)[q.1]? = some q.2)) = true := by decide +kernel
set_option maxRecDepth 100000 in
theorem l_cp_ok : (l_cp.all fun q => decide ((flatC l_GV)[q.2.2]? = some (.not (.castable (e_en q.1) (e_en q.2.1))))) = true := by decide +kernel
set_option maxRecDepth 100000 in
theorem l_sp_ok : (l_sp.all fun q => decide ((flatC l_GV)[q.2]? = some (.exactly (.string "Rankhall" q.1) "java/lang/String"))) = true := by decide +kernel
theorem l_cp_all : ((List.range 6).all fun i => (List.range 6).all fun j => decide (i = j) || l_cp.any (fun q => decide (q.1 = i) && decide (q.2.1 = j))) = true := by decide
theorem l_sp_all : (e_TX.all fun q => l_sp.any (fun r => decide (r.1 = q.1))) = true := by decide
set_option maxRecDepth 100000 in
theorem l_tx_ok : (e_TX.all fun q => decide (e_tb q.2.2 = some (.stringRef "Rankhall" q.1 q.2.1))) = true := by decide +kernel
set_option maxRecDepth 100000 in
theorem l_nc_ok : ((List.range 21).all fun ci => match e_NW[ci]? with | some q => decide (e_tb q.1 = some (.instantiable (e_cn ci) (e_cF ci))) | none => false) = true := by decide +kernel
theorem l_cl : ∀ c, c < 21 → vwCl[c]? = some (e_cn c, e_cT c, e_cF c)
  | 0, _ => rfl
  | 1, _ => rfl
  | 2, _ => rfl
  | 3, _ => rfl
  | 4, _ => rfl
  | 5, _ => rfl
  | 6, _ => rfl
  | 7, _ => rfl
  | 8, _ => rfl
  | 9, _ => rfl
  | 10, _ => rfl
  | 11, _ => rfl
  | 12, _ => rfl
  | 13, _ => rfl
  | 14, _ => rfl
  | 15, _ => rfl
  | 16, _ => rfl
  | 17, _ => rfl
  | 18, _ => rfl
  | 19, _ => rfl
  | 20, _ => rfl
  | n + 21, h => absurd h (by omega)
section l_st
variable {s : State} {args : Array Value}
theorem l_gv (hgv : l_GV.before args s = true) {i : Nat} {w : Cond} (h : (flatC l_GV)[i]? = some w) : w.before args s = true := flat_of_before _ hgv w (List.mem_of_getElem? h)
theorem l_nwb (hgv : l_GV.before args s = true) {k i : Nat} {w : Cond} (h : l_nw[k]? = some (i, w)) : w.before args s = true := l_gv hgv (of_decide_eq_true (List.all_eq_true.mp l_nw_ok _ (List.mem_of_getElem? h)))
theorem l_arrP {ty : FieldType} (hp : ∀ C, ty ≠ .object C) (h : (Cond.arrayClass ty).before args s = true) : ∃ cA, ArrOfT s cA ty ∧ va_RA s cA ty := by
  obtain ⟨cA, k, comp, h1, h2, h3⟩ := Cond.arrayClass_spec h
  refine ⟨cA, fun n z => ⟨fun k h => (by cases h), k, h2, comp, h3⟩, ?_⟩
  cases ty with
  | object C => exact absurd rfl (hp C)
  | _ => exact h1
theorem l_arrO {C : String} (h : (Cond.arrayOver (.object C)).before args s = true) : ∃ cA, ArrOfT s cA (.object C) ∧ va_RA s cA (.object C) := by
  obtain ⟨comp, cA, k, h1, -, h2, h3, h4⟩ := Cond.arrayOver_spec h
  exact ⟨cA, fun n z => ⟨fun k h => (by cases h), k, h2, comp, h3⟩, k, comp, h2, h3, h1, h4⟩
theorem l_vaK (hts : ∀ w ∈ lw_tbl, w.before args s = true) : ∃ (D : va_G) (cA : Nat → ClassId), va_K D vwCl (e_tys cA) s := by
  have htt : ∀ w ∈ e_tt, w.before args s = true := fun w hw => hts w (List.mem_filter.mp hw).1
  have hK : ∀ ci : Nat, ∃ cC : ClassId, ∃ iS : Nat → Nat, ci < 21 → u_Kn s (e_cn ci) (e_cT ci) (e_cF ci) cC iS := fun ci => by
    by_cases h : ci < 21
    · have h1 := List.all_eq_true.mp l_nc_ok ci (List.mem_range.mpr h)
      split at h1
      · obtain ⟨cC, iS, h9⟩ := u_known htt (e_uw h) (hts _ (e_tb_in (of_decide_eq_true h1)))
        exact ⟨cC, iS, fun _ => h9⟩
      · cases h1
    · have h0 : (0 : Nat) < 21 := by decide
      have h1 := List.all_eq_true.mp l_nc_ok 0 (List.mem_range.mpr h0)
      split at h1
      · obtain ⟨cC, iS, h9⟩ := u_known htt (e_uw h0) (hts _ (e_tb_in (of_decide_eq_true h1)))
        exact ⟨cC, iS, fun z => absurd z h⟩
      · cases h1
  obtain ⟨c0, g0⟩ := l_arrP (ty := .int) (fun C z => by cases z) (hts _ (e_tb_in (p := 166) (by decide +kernel)))
  obtain ⟨c1, g1⟩ := l_arrP (ty := .boolean) (fun C z => by cases z) (hts _ (e_tb_in (p := 165) (by decide +kernel)))
  obtain ⟨c2, g2⟩ := l_arrP (ty := .char) (fun C z => by cases z) (hts _ (e_tb_in (p := 224) (by decide +kernel)))
  obtain ⟨c3, g3⟩ := l_arrP (ty := .long) (fun C z => by cases z) (hts _ (e_tb_in (p := 499) (by decide +kernel)))
  obtain ⟨c4, g4⟩ := l_arrP (ty := .double) (fun C z => by cases z) (hts _ (e_tb_in (p := 2831) (by decide +kernel)))
  obtain ⟨c5, g5⟩ := l_arrO (C := "java/lang/Object") (hts _ (e_tb_in (p := 332) (by decide +kernel)))
  obtain ⟨c6, g6⟩ := l_arrO (C := "Rankhall$Pipe") (hts _ (e_tb_in (p := 948) (by decide +kernel)))
  refine ⟨(fun ci => Classical.choose (hK ci), fun ci => Classical.choose (Classical.choose_spec (hK ci))), fun k => if k = 100 then c0 else if k = 101 then c1 else if k = 102 then c2 else if k = 103 then c3 else if k = 104 then c4 else if k = 105 then c5 else c6, fun c q hq => ?_, fun k q hq => ?_⟩
  · have hlt : c < 21 := (List.getElem?_eq_some_iff.mp hq).1
    rw [l_cl c hlt] at hq
    cases hq
    exact Classical.choose_spec (Classical.choose_spec (hK c)) hlt
  · match k, hq with
    | 0, hq => rw [← Option.some.inj (show some (c0, (.int : FieldType)) = some q from hq)]; exact g0
    | 1, hq => rw [← Option.some.inj (show some (c1, (.boolean : FieldType)) = some q from hq)]; exact g1
    | 2, hq => rw [← Option.some.inj (show some (c2, (.char : FieldType)) = some q from hq)]; exact g2
    | 3, hq => rw [← Option.some.inj (show some (c3, (.long : FieldType)) = some q from hq)]; exact g3
    | 4, hq => rw [← Option.some.inj (show some (c4, (.double : FieldType)) = some q from hq)]; exact g4
    | 5, hq => rw [← Option.some.inj (show some (c5, (.object "java/lang/Object" : FieldType)) = some q from hq)]; exact g5
    | 6, hq => rw [← Option.some.inj (show some (c6, (.object "Rankhall$Pipe" : FieldType)) = some q from hq)]; exact g6
    | k + 7, hq => exact absurd hq (by simp [e_tys])
theorem l_stT {C n : String} {N : Nat} {f : Nat → Int32} {A : Nat → Prop} (hn : N < 2 ^ 31) (h1 : (Cond.arrayOf (.static C n "[I") .int).before args s = true) (h2 : (Cond.eq (.length (.static C n "[I")) (.int (Int32.ofNat N))).before args s = true) (h3 : ∀ j, j < N → (Cond.eq (.elem (.static C n "[I") (.int (Int32.ofNat j))) (.int (f j))).before args s = true) (hl : (Cond.laysStatic C n "[I").before args s = true) (hi : (Cond.initialized C).before args s = true) (hA : ∀ a : Nat, a < s.heap.size → ¬ A a) : ∃ t : Nat, va_T .int t N (fun j => .int (f j)) A s s.heap ∧ va_Z C n "[I" (.ref t) A s s.heap := by
  obtain ⟨t, ht, hT⟩ := va_Tof hn h1 (va_eqt h2) (fun j hj => va_eqt (h3 j hj)) hA
  exact ⟨t, hT, va_Zref hl hi ht hA⟩
theorem l_zq {C n d : String} {A : Nat → Prop} (hl : (Cond.laysStatic C n d).before args s = true) (hini : (Cond.initialized C).before args s = true) (h : (Cond.isRef (.static C n d)).before args s = true) (hA : ∀ a : Nat, a < s.heap.size → ¬ A a) : vx_Zq C n d A s s.heap := by
  refine ⟨va_Zqof hl hini h hA, ?_⟩
  obtain ⟨c, k, i, f, a, cell, q1, q2, q3, q4, q5, q6, q7, q8, q9⟩ := Cond.laysStatic_spec hl
  exact ⟨c, k, i, f, a, cell, q1, q2, q3, q4, q5, q6, q7, q8, q9, hA a (Array.getElem?_eq_some_iff.mp q5).1⟩
end l_st
def l_XX (L : Nat) (xs : Nat → Int32) : e_XT := fun g => match g with
  | 0 => (L, xs)
  | 1 => (3, fun n => nI (v_fgr 1 n))
  | 2 => (3, fun n => nI (v_fgr 2 n))
  | 3 => (3, fun n => nI (v_fgr 3 n))
  | 4 => (3, fun n => nI (v_fgr 4 n))
  | 6 => (7, fun n => nI (v_sc true n))
  | 7 => (7, fun n => nI (v_sc false n))
  | _ => (0, fun _ => 0)
theorem l_XXX (L : Nat) (xs : Nat → Int32) : v_X (l_XX L xs) := by
  refine ⟨fun g h1 h4 => ?_, rfl, ⟨rfl, rfl⟩, fun i _ => ⟨rfl, rfl⟩⟩
  rcases (show g = 1 ∨ g = 2 ∨ g = 3 ∨ g = 4 by omega) with z | z | z | z <;> rw [z] <;> exact ⟨rfl, fun _ _ => rfl⟩
set_option maxRecDepth 100000 in
set_option maxHeartbeats 1600000 in
theorem lw_facts {s : State} {b L : Nat} {xs : Nat → Int32} (hts : ∀ w ∈ lw_tbl, w.before #[Value.ref b] s = true) (hX : va_X b L xs s s.heap) (hbl : b < s.heap.size) (hgv : l_GV.before #[Value.ref b] s = true) : ∃ (D : va_G) (cA : Nat → ClassId) (ex : Nat → Nat), e_Sg D cA (l_XX L xs) ex (fun q => s.heap.size ≤ q) s ∧ ex 0 = b := by
  have hA : ∀ a : Nat, a < s.heap.size → ¬ (fun q : Nat => s.heap.size ≤ q) a := fun a h => Nat.not_le.mpr h
  obtain ⟨D, cA, hK⟩ := l_vaK hts
  have hlay : ∀ (k : Nat) (q : String × String × String × Nat × Nat), e_SN[k]? = some q → (Cond.laysStatic q.1 q.2.1 q.2.2.1).before #[Value.ref b] s = true ∧ (Cond.initialized q.1).before #[Value.ref b] s = true := fun k q h => by
    have g := List.all_eq_true.mp e_SN_ok q (List.mem_of_getElem? h)
    unfold e_SNck at g
    rw [Bool.and_eq_true] at g
    exact ⟨hts _ (e_tb_in (of_decide_eq_true g.1)), hts _ (e_tb_in (of_decide_eq_true g.2))⟩
  have e1 : ∀ j, j < 3 → (Cond.eq (.elem (.static "Rankhall$Continuo" "FIFTH" "[I") (.int (Int32.ofNat j))) (.int ((fun n => nI (v_fgr 1 n)) j))).before #[Value.ref b] s = true := fun j hj => by
    match j, hj with
    | 0, _ => exact l_nwb (w := .eq (.elem (.static "Rankhall$Continuo" "FIFTH" "[I") (.int 0)) (.int 0)) hgv (k := 2) rfl
    | 1, _ => exact l_nwb (w := .eq (.elem (.static "Rankhall$Continuo" "FIFTH" "[I") (.int 1)) (.int 2)) hgv (k := 3) rfl
    | 2, _ => exact l_nwb (w := .eq (.elem (.static "Rankhall$Continuo" "FIFTH" "[I") (.int 2)) (.int 4)) hgv (k := 4) rfl
    | j + 3, hj => exact absurd hj (by omega)
  obtain ⟨t1, T1, Z1⟩ := l_stT (N := 3) (f := (fun n => nI (v_fgr 1 n))) (by decide) (l_nwb (w := .arrayOf (.static "Rankhall$Continuo" "FIFTH" "[I") .int) hgv (k := 0) rfl) (l_nwb (w := .eq (.length (.static "Rankhall$Continuo" "FIFTH" "[I")) (.int 3)) hgv (k := 1) rfl) e1 (hlay 0 _ rfl).1 (hlay 0 _ rfl).2 hA
  have e2 : ∀ j, j < 3 → (Cond.eq (.elem (.static "Rankhall$Continuo" "SIXTH" "[I") (.int (Int32.ofNat j))) (.int ((fun n => nI (v_fgr 2 n)) j))).before #[Value.ref b] s = true := fun j hj => by
    match j, hj with
    | 0, _ => exact l_nwb (w := .eq (.elem (.static "Rankhall$Continuo" "SIXTH" "[I") (.int 0)) (.int 0)) hgv (k := 7) rfl
    | 1, _ => exact l_nwb (w := .eq (.elem (.static "Rankhall$Continuo" "SIXTH" "[I") (.int 1)) (.int 2)) hgv (k := 8) rfl
    | 2, _ => exact l_nwb (w := .eq (.elem (.static "Rankhall$Continuo" "SIXTH" "[I") (.int 2)) (.int 5)) hgv (k := 9) rfl
    | j + 3, hj => exact absurd hj (by omega)
  obtain ⟨t2, T2, Z2⟩ := l_stT (N := 3) (f := (fun n => nI (v_fgr 2 n))) (by decide) (l_nwb (w := .arrayOf (.static "Rankhall$Continuo" "SIXTH" "[I") .int) hgv (k := 5) rfl) (l_nwb (w := .eq (.length (.static "Rankhall$Continuo" "SIXTH" "[I")) (.int 3)) hgv (k := 6) rfl) e2 (hlay 1 _ rfl).1 (hlay 1 _ rfl).2 hA
  have e3 : ∀ j, j < 3 → (Cond.eq (.elem (.static "Rankhall$Continuo" "FOURTH" "[I") (.int (Int32.ofNat j))) (.int ((fun n => nI (v_fgr 3 n)) j))).before #[Value.ref b] s = true := fun j hj => by
    match j, hj with
    | 0, _ => exact l_nwb (w := .eq (.elem (.static "Rankhall$Continuo" "FOURTH" "[I") (.int 0)) (.int 0)) hgv (k := 12) rfl
    | 1, _ => exact l_nwb (w := .eq (.elem (.static "Rankhall$Continuo" "FOURTH" "[I") (.int 1)) (.int 3)) hgv (k := 13) rfl
    | 2, _ => exact l_nwb (w := .eq (.elem (.static "Rankhall$Continuo" "FOURTH" "[I") (.int 2)) (.int 5)) hgv (k := 14) rfl
    | j + 3, hj => exact absurd hj (by omega)
  obtain ⟨t3, T3, Z3⟩ := l_stT (N := 3) (f := (fun n => nI (v_fgr 3 n))) (by decide) (l_nwb (w := .arrayOf (.static "Rankhall$Continuo" "FOURTH" "[I") .int) hgv (k := 10) rfl) (l_nwb (w := .eq (.length (.static "Rankhall$Continuo" "FOURTH" "[I")) (.int 3)) hgv (k := 11) rfl) e3 (hlay 2 _ rfl).1 (hlay 2 _ rfl).2 hA
  have e4 : ∀ j, j < 3 → (Cond.eq (.elem (.static "Rankhall$Continuo" "SEVENTH" "[I") (.int (Int32.ofNat j))) (.int ((fun n => nI (v_fgr 4 n)) j))).before #[Value.ref b] s = true := fun j hj => by
    match j, hj with
    | 0, _ => exact l_nwb (w := .eq (.elem (.static "Rankhall$Continuo" "SEVENTH" "[I") (.int 0)) (.int 2)) hgv (k := 17) rfl
    | 1, _ => exact l_nwb (w := .eq (.elem (.static "Rankhall$Continuo" "SEVENTH" "[I") (.int 1)) (.int 4)) hgv (k := 18) rfl
    | 2, _ => exact l_nwb (w := .eq (.elem (.static "Rankhall$Continuo" "SEVENTH" "[I") (.int 2)) (.int 6)) hgv (k := 19) rfl
    | j + 3, hj => exact absurd hj (by omega)
  obtain ⟨t4, T4, Z4⟩ := l_stT (N := 3) (f := (fun n => nI (v_fgr 4 n))) (by decide) (l_nwb (w := .arrayOf (.static "Rankhall$Continuo" "SEVENTH" "[I") .int) hgv (k := 15) rfl) (l_nwb (w := .eq (.length (.static "Rankhall$Continuo" "SEVENTH" "[I")) (.int 3)) hgv (k := 16) rfl) e4 (hlay 3 _ rfl).1 (hlay 3 _ rfl).2 hA
  have e5 : ∀ j, j < 0 → (Cond.eq (.elem (.static "Rankhall$Continuo" "NONE" "[I") (.int (Int32.ofNat j))) (.int ((fun _ => 0) j))).before #[Value.ref b] s = true := fun j hj => absurd hj (Nat.not_lt_zero j)
  obtain ⟨t5, T5, Z5⟩ := l_stT (N := 0) (f := (fun _ => 0)) (by decide) (l_nwb (w := .arrayOf (.static "Rankhall$Continuo" "NONE" "[I") .int) hgv (k := 20) rfl) (l_nwb (w := .eq (.length (.static "Rankhall$Continuo" "NONE" "[I")) (.int 0)) hgv (k := 21) rfl) e5 (hlay 4 _ rfl).1 (hlay 4 _ rfl).2 hA
  have e6 : ∀ j, j < 7 → (Cond.eq (.elem (.static "Rankhall$Continuo" "MAJOR" "[I") (.int (Int32.ofNat j))) (.int ((fun n => nI (v_sc true n)) j))).before #[Value.ref b] s = true := fun j hj => by
    match j, hj with
    | 0, _ => exact l_nwb (w := .eq (.elem (.static "Rankhall$Continuo" "MAJOR" "[I") (.int 0)) (.int 0)) hgv (k := 24) rfl
    | 1, _ => exact l_nwb (w := .eq (.elem (.static "Rankhall$Continuo" "MAJOR" "[I") (.int 1)) (.int 2)) hgv (k := 25) rfl
    | 2, _ => exact l_nwb (w := .eq (.elem (.static "Rankhall$Continuo" "MAJOR" "[I") (.int 2)) (.int 4)) hgv (k := 26) rfl
    | 3, _ => exact l_nwb (w := .eq (.elem (.static "Rankhall$Continuo" "MAJOR" "[I") (.int 3)) (.int 5)) hgv (k := 27) rfl
    | 4, _ => exact l_nwb (w := .eq (.elem (.static "Rankhall$Continuo" "MAJOR" "[I") (.int 4)) (.int 7)) hgv (k := 28) rfl
    | 5, _ => exact l_nwb (w := .eq (.elem (.static "Rankhall$Continuo" "MAJOR" "[I") (.int 5)) (.int 9)) hgv (k := 29) rfl
    | 6, _ => exact l_nwb (w := .eq (.elem (.static "Rankhall$Continuo" "MAJOR" "[I") (.int 6)) (.int 11)) hgv (k := 30) rfl
    | j + 7, hj => exact absurd hj (by omega)
  obtain ⟨t6, T6, Z6⟩ := l_stT (N := 7) (f := (fun n => nI (v_sc true n))) (by decide) (l_nwb (w := .arrayOf (.static "Rankhall$Continuo" "MAJOR" "[I") .int) hgv (k := 22) rfl) (l_nwb (w := .eq (.length (.static "Rankhall$Continuo" "MAJOR" "[I")) (.int 7)) hgv (k := 23) rfl) e6 (hlay 5 _ rfl).1 (hlay 5 _ rfl).2 hA
  have e7 : ∀ j, j < 7 → (Cond.eq (.elem (.static "Rankhall$Continuo" "MINOR" "[I") (.int (Int32.ofNat j))) (.int ((fun n => nI (v_sc false n)) j))).before #[Value.ref b] s = true := fun j hj => by
    match j, hj with
    | 0, _ => exact l_nwb (w := .eq (.elem (.static "Rankhall$Continuo" "MINOR" "[I") (.int 0)) (.int 0)) hgv (k := 33) rfl
    | 1, _ => exact l_nwb (w := .eq (.elem (.static "Rankhall$Continuo" "MINOR" "[I") (.int 1)) (.int 2)) hgv (k := 34) rfl
    | 2, _ => exact l_nwb (w := .eq (.elem (.static "Rankhall$Continuo" "MINOR" "[I") (.int 2)) (.int 3)) hgv (k := 35) rfl
    | 3, _ => exact l_nwb (w := .eq (.elem (.static "Rankhall$Continuo" "MINOR" "[I") (.int 3)) (.int 5)) hgv (k := 36) rfl
    | 4, _ => exact l_nwb (w := .eq (.elem (.static "Rankhall$Continuo" "MINOR" "[I") (.int 4)) (.int 7)) hgv (k := 37) rfl
    | 5, _ => exact l_nwb (w := .eq (.elem (.static "Rankhall$Continuo" "MINOR" "[I") (.int 5)) (.int 8)) hgv (k := 38) rfl
    | 6, _ => exact l_nwb (w := .eq (.elem (.static "Rankhall$Continuo" "MINOR" "[I") (.int 6)) (.int 10)) hgv (k := 39) rfl
    | j + 7, hj => exact absurd hj (by omega)
  obtain ⟨t7, T7, Z7⟩ := l_stT (N := 7) (f := (fun n => nI (v_sc false n))) (by decide) (l_nwb (w := .arrayOf (.static "Rankhall$Continuo" "MINOR" "[I") .int) hgv (k := 31) rfl) (l_nwb (w := .eq (.length (.static "Rankhall$Continuo" "MINOR" "[I")) (.int 7)) hgv (k := 32) rfl) e7 (hlay 6 _ rfl).1 (hlay 6 _ rfl).2 hA
  obtain ⟨t8, ht8, T8⟩ := va_Tof (N := 0) (f := fun _ => Value.null) (A := fun q => s.heap.size ≤ q) (by decide) (l_nwb (w := .arrayOf (.static "java/util/ArrayList" "DEFAULTCAPACITY_EMPTY_ELEMENTDATA" "[Ljava/lang/Object;") (.object "java/lang/Object")) hgv (k := 40) rfl) (va_eqt (l_nwb (w := .eq (.length (.static "java/util/ArrayList" "DEFAULTCAPACITY_EMPTY_ELEMENTDATA" "[Ljava/lang/Object;")) (.int 0)) hgv (k := 41) rfl)) (fun j hj => absurd hj (Nat.not_lt_zero j)) hA
  have Z8 := va_Zref (hlay 7 _ rfl).1 (hlay 7 _ rfl).2 ht8 hA
  obtain ⟨mi, hmi⟩ := va_Mi.of (l_nwb (w := .isRef (.mirror "[Ljava/lang/Object;")) hgv (k := 44) rfl)
  have hini : (Cond.initialized "java/lang/Throwable").before #[Value.ref b] s = true := hts _ (e_tb_in (p := 100) (by decide +kernel))
  obtain ⟨scr, x1, x2, x3, x4, x5⟩ := hX
  have T0 : va_T .int b L (fun j => .int (xs j)) (fun q => s.heap.size ≤ q) s s.heap := ⟨scr, x1, x2, x3, Nat.le_of_eq x4.symm, by rw [x4], x5, Nat.not_le.mpr hbl⟩
  refine ⟨D, cA, fun k => match k with | 0 => b | 1 => t1 | 2 => t2 | 3 => t3 | 4 => t4 | 5 => t5 | 6 => t6 | 7 => t7 | 8 => t8 | _ => mi, ⟨⟨hK, fun w hw => va_Nw.of ?_ (hts w (List.mem_filter.mp hw).1), ⟨va_AO.of (hts _ (e_tb_in (p := 332) (by decide +kernel))), va_AO.of (hts _ (e_tb_in (p := 948) (by decide +kernel)))⟩, fun x hx => ?_, ⟨rfl, T8⟩, fun x hx1 hx8 => ?_, ⟨l_zq (hts _ (e_tb_in (p := 876) (by decide +kernel))) hini (l_nwb (w := .isRef (.static "java/lang/Throwable" "UNASSIGNED_STACK" "[Ljava/lang/StackTraceElement;")) hgv (k := 42) rfl) hA, l_zq (hts _ (e_tb_in (p := 878) (by decide +kernel))) hini (l_nwb (w := .isRef (.static "java/lang/Throwable" "SUPPRESSED_SENTINEL" "Ljava/util/List;")) hgv (k := 43) rfl) hA⟩, fun q hq => ?_, fun _ h => h⟩, fun i j hi hj hij => ?_, hmi, va_Dc.of (hts _ (e_tb_in (p := 2872) (by decide +kernel)))⟩, rfl⟩
  · have h := (List.mem_filter.mp hw).2
    unfold e_isN at h
    split at h
    · rfl
    · rfl
    · rfl
    · rfl
    · cases h
  · rcases (show x = 0 ∨ x = 1 ∨ x = 2 ∨ x = 3 ∨ x = 4 ∨ x = 5 ∨ x = 6 ∨ x = 7 by omega) with z | z | z | z | z | z | z | z <;> rw [z]
    · exact T0
    · exact T1
    · exact T2
    · exact T3
    · exact T4
    · exact T5
    · exact T6
    · exact T7
  · rcases (show x = 1 ∨ x = 2 ∨ x = 3 ∨ x = 4 ∨ x = 5 ∨ x = 6 ∨ x = 7 ∨ x = 8 by omega) with z | z | z | z | z | z | z | z <;> rw [z]
    · exact Z1
    · exact Z2
    · exact Z3
    · exact Z4
    · exact Z5
    · exact Z6
    · exact Z7
    · exact Z8
  · obtain ⟨r, hr, hr9⟩ := List.any_eq_true.mp (List.all_eq_true.mp l_sp_all q hq)
    have g := of_decide_eq_true (List.all_eq_true.mp l_sp_ok r hr)
    rw [of_decide_eq_true hr9] at g
    obtain ⟨a, c, cell, k, q1, -⟩ := Cond.exactly_spec (l_gv hgv g)
    exact ⟨a, vk_R.of (hts _ (e_tb_in (of_decide_eq_true (List.all_eq_true.mp l_tx_ok q hq)))) q1⟩
  · have g := List.all_eq_true.mp (List.all_eq_true.mp l_cp_all i (List.mem_range.mpr hi)) j (List.mem_range.mpr hj)
    rcases (Bool.or_eq_true _ _).mp g with g | g
    · exact absurd (of_decide_eq_true g) hij
    · obtain ⟨q, hq, hq9⟩ := List.any_eq_true.mp g
      rw [Bool.and_eq_true] at hq9
      have g2 := of_decide_eq_true (List.all_eq_true.mp l_cp_ok q hq)
      rw [of_decide_eq_true hq9.1, of_decide_eq_true hq9.2] at g2
      exact va_Nc.of (l_gv hgv g2)
