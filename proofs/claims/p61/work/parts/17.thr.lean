/-! 17: what holds all through a launch, carried to a callee; the words of a throw -/
/-- the law's own text constants: number in its pool, text, place -/
def e_ST : List (Nat × String × Nat) := [(254, "&|^!", 1286), (267, "5647", 1388), (272, "kr-", 1466), (283, "cd-", 1519), (189, "ambp", 1763)]
def e_SLen : List Nat := [4, 4, 3, 3, 4]
def e_SByt : List (List Int32) := [[38, 124, 94, 33], [53, 54, 52, 55], [107, 114, 45], [99, 100, 45], [97, 109, 98, 112]]
def e_st (i : Nat) : Nat × String × Nat := (e_ST[i]?).getD (0, "", 0)
def e_Ss (ex : Nat → Nat) (A : Nat → Prop) (s : State) : Prop :=
  vk_S 5 e_SLen e_SByt (fun i => ex (10 + i)) (fun i => ex (15 + i)) A s s.heap ∧ (∀ i, i < 5 → vk_R "RankhallLaw" (e_st i).1 (e_st i).2.1 (ex (10 + i)) s) ∧ va_Z "java/lang/String" "COMPACT_STRINGS" "Z" (.int 1) A s s.heap ∧ (va_Z "jdk/internal/util/Preconditions" "SIOOBE_FORMATTER" "Ljava/util/function/BiFunction;" (.ref (ex 20)) A s s.heap ∨ va_Z "jdk/internal/util/Preconditions" "SIOOBE_FORMATTER" "Ljava/util/function/BiFunction;" .null A s s.heap)
def e_Sg (D : va_G) (cA : Nat → ClassId) (X : e_XT) (ex : Nat → Nat) (A : Nat → Prop) (s : State) : Prop :=
  e_Sf D cA X ex A s ∧ (∀ i j, i < 6 → j < 6 → i ≠ j → va_Nc (e_en i) (e_en j) s) ∧ va_Mi "[Ljava/lang/Object;" (ex 9) s ∧ va_Dc s ∧ e_Ss ex A s
theorem e_Sg.warm {D : va_G} {cA : Nat → ClassId} {X : e_XT} {ex : Nat → Nat} {A : Nat → Prop} {s U : State} {locs : List Loc} (h : e_Sg D cA X ex A s) (hW : s.WarmedH U.vm) (hS : va_S A s.heap U.heap locs) : e_Sg D cA X ex A U := by
  obtain ⟨⟨hK, hnt, hAO, hX, hX8, hZ, hZq, hTX, hA⟩, hN, hM, hD, hT1, hT2, hT3, hT4⟩ := h
  have ha := hW.alike
  have hk : ∀ a : Nat, a < s.heap.size → ¬ A a → U.heap[a]? = s.heap[a]? := hS.2.1
  refine ⟨⟨va_K.moved ha hK, fun w hw => e_nt_warm hw hW (hnt w hw), ⟨va_AO.moved ha hAO.1, va_AO.moved ha hAO.2⟩, fun x hx => va_T.moved ha ((hX x hx).kept hk), ⟨hX8.1, va_T.moved ha (hX8.2.kept hk)⟩, fun x h1 h2 => va_Z.moved ha ((hZ x h1 h2).kept hk), ⟨vx_Zq.moved ha (hZq.1.kept hk), vx_Zq.moved ha (hZq.2.kept hk)⟩, fun q hq => ?_, fun q hq => hA q (Nat.le_trans hS.1 hq)⟩, fun i j a b c => va_Nc.moved ha (hN i j a b c), va_Mi.moved ha hM, va_Dc.moved ha hD, vk_S.moved ha (hT1.kept hk), fun i hi => vk_R.warm hW (hT2 i hi), va_Z.moved ha (hT3.kept hk), hT4.imp (fun z => va_Z.moved ha (z.kept hk)) (fun z => va_Z.moved ha (z.kept hk))⟩
  obtain ⟨sa, h⟩ := hTX q hq
  exact ⟨sa, vk_R.warm hW h⟩
theorem e_Sg.calling {D : va_G} {cA : Nat → ClassId} {X : e_XT} {ex : Nat → Nat} {A : Nat → Prop} {U : State} {g : JFrame} {mk : MethodId} {a : Array Value} (h : e_Sg D cA X ex A U) : e_Sg D cA X ex A (U.calling g mk a) := h.warm (locs := []) (State.WarmedH.refl U) va_S.rf
def e_XP : List (Nat × Nat × Nat × Nat × Nat × List Nat) := [(0, 130, 134, 604, 54, [51, 626, 635, 643, 646, 648, 627, 628, 76, 77, 629, 634, 644, 664, 616, 665, 618, 666, 620, 630, 632, 622, 660, 661, 663, 622, 651, 652, 653, 654, 608, 654, 655, 656, 657, 610, 657, 658, 659, 660, 612, 650, 605, 606, 613, 614, 615, 617, 619, 621, 625, 624, 623]),
  (1, 59, 63, 677, 55, [51, 626, 635, 643, 646, 648, 627, 628, 76, 77, 629, 634, 644, 664, 616, 665, 618, 666, 620, 630, 632, 622, 660, 661, 663, 622, 688, 689, 690, 654, 608, 654, 655, 656, 657, 610, 657, 658, 659, 660, 612, 687, 678, 679, 680, 639, 681, 682, 683, 684, 625, 624, 685]),
  (2, 355, 359, 925, 60, [51, 626, 635, 643, 646, 648, 627, 628, 76, 77, 629, 634, 644, 664, 616, 665, 618, 666, 620, 630, 632, 622, 660, 661, 663, 622, 898, 899, 900, 654, 608, 654, 655, 656, 657, 610, 657, 658, 659, 660, 612, 935, 926, 927, 928, 640, 929, 930, 931, 932, 625, 624, 933]),
  (3, 455, 459, 1008, 66, [51, 626, 635, 643, 646, 648, 627, 628, 76, 77, 629, 634, 644, 664, 616, 665, 618, 666, 620, 630, 632, 622, 660, 661, 663, 622, 1019, 1020, 1021, 654, 608, 654, 655, 656, 657, 610, 657, 658, 659, 660, 612, 1018, 1009, 1010, 1011, 641, 1012, 1013, 1014, 1015, 625, 624, 1016]),
  (5, 471, 475, 1677, 69, [51, 626, 635, 643, 646, 648, 627, 628, 76, 77, 629, 634, 644, 664, 616, 665, 618, 666, 620, 630, 632, 622, 660, 661, 663, 622, 1657, 1658, 1659, 654, 608, 654, 655, 656, 657, 610, 657, 658, 659, 660, 612, 1679, 1656, 1667, 1668, 637, 1662, 1663, 1665, 1661, 625, 624, 1660])]
def e_XPck (r : Nat × Nat × Nat × Nat × Nat × List Nat) : Bool := e_w r.2.2.2.1 (.classLink "Rankhall" r.2.1 (e_en r.1)) && (e_w r.2.2.2.2.1 (.initialized (e_en r.1)) && (decide ((vx_atS "Rankhall" r.2.2.1 (e_en r.1) e_xn).map some = r.2.2.2.2.2.map e_tb) && (vx_atS "Rankhall" r.2.2.1 (e_en r.1) e_xn).all (fun w => goodWord w || e_isN w)))
theorem e_XP_ok : e_XP.all e_XPck = true := by decide +kernel
theorem e_gn {w : Cond} (hm : w ∈ lw_tbl) (h : (goodWord w || e_isN w) = true) : w ∈ e_tt ∨ w ∈ e_nt := by
  rcases (Bool.or_eq_true _ _).mp h with h | h
  · exact Or.inl (List.mem_filter.mpr ⟨hm, h⟩)
  · exact Or.inr (List.mem_filter.mpr ⟨hm, h⟩)
theorem e_tt_ot {w : Cond} (h : w ∈ e_tt ∨ w ∈ e_nt) : vx_ot w = true := by
  unfold vx_ot
  rcases h with h | h
  · rw [(List.mem_filter.mp h).2, Bool.or_true]
  · rw [e_nt_on h, Bool.true_or]
theorem e_bef {args : Array Value} {s : State} {w : Cond} (hts : ∀ w ∈ e_tt, w.before args s = true) (hnt : ∀ w ∈ e_nt, va_Nw w s) (h : w ∈ e_tt ∨ w ∈ e_nt) : w.before args s = true := by
  rcases h with h | h
  · exact hts w h
  · exact (hnt w h).use (e_nt_on h)
theorem e_XP_at {r : Nat × Nat × Nat × Nat × Nat × List Nat} (hr : r ∈ e_XP) : (Cond.classLink "Rankhall" r.2.1 (e_en r.1) ∈ e_tt ∧ Cond.initialized (e_en r.1) ∈ e_tt) ∧ ∀ w ∈ vx_atS "Rankhall" r.2.2.1 (e_en r.1) e_xn, w ∈ e_tt ∨ w ∈ e_nt := by
  have h := List.all_eq_true.mp e_XP_ok r hr
  unfold e_XPck at h
  rw [Bool.and_eq_true, Bool.and_eq_true, Bool.and_eq_true] at h
  obtain ⟨h1, h2, h3, h4⟩ := h
  refine ⟨⟨e_w_in h1, e_w_in h2⟩, fun w hw => e_gn ?_ (List.all_eq_true.mp h4 w hw)⟩
  have h5 : some w ∈ (vx_atS "Rankhall" r.2.2.1 (e_en r.1) e_xn).map some := List.mem_map.mpr ⟨w, hw, rfl⟩
  rw [of_decide_eq_true h3] at h5
  obtain ⟨p, -, h6⟩ := List.mem_map.mp h5
  exact e_tb_in h6
theorem e_xn_fit : ∀ n ∈ e_xn, Bundle.fit n = true := by decide +kernel
theorem e_en_fit : ∀ i, i < 6 → Bundle.fit (e_en i) = true := by decide +kernel
