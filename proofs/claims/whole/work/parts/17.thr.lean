/-! 17: what holds all through a launch, carried to a callee; the words of a throw -/
def e_Sg (D : va_G) (cA : Nat → ClassId) (X : e_XT) (ex : Nat → Nat) (A : Nat → Prop) (s : State) : Prop :=
  e_Sf D cA X ex A s ∧ (∀ i j, i < 6 → j < 6 → i ≠ j → va_Nc (e_en i) (e_en j) s) ∧ va_Mi "[Ljava/lang/Object;" (ex 9) s ∧ va_Dc s
theorem e_Sg.warm {D : va_G} {cA : Nat → ClassId} {X : e_XT} {ex : Nat → Nat} {A : Nat → Prop} {s U : State} {locs : List Loc} (h : e_Sg D cA X ex A s) (hW : s.WarmedH U.vm) (hS : va_S A s.heap U.heap locs) : e_Sg D cA X ex A U := by
  obtain ⟨⟨hK, hnt, hAO, hX, hX8, hZ, hZq, hTX, hA⟩, hN, hM, hD⟩ := h
  have ha := hW.alike
  have hk : ∀ a : Nat, a < s.heap.size → ¬ A a → U.heap[a]? = s.heap[a]? := hS.2.1
  refine ⟨⟨va_K.moved ha hK, fun w hw => e_nt_warm hw hW (hnt w hw), ⟨va_AO.moved ha hAO.1, va_AO.moved ha hAO.2⟩, fun x hx => va_T.moved ha ((hX x hx).kept hk), ⟨hX8.1, va_T.moved ha (hX8.2.kept hk)⟩, fun x h1 h2 => va_Z.moved ha ((hZ x h1 h2).kept hk), ⟨vx_Zq.moved ha (hZq.1.kept hk), vx_Zq.moved ha (hZq.2.kept hk)⟩, fun q hq => ?_, fun q hq => hA q (Nat.le_trans hS.1 hq)⟩, fun i j a b c => va_Nc.moved ha (hN i j a b c), va_Mi.moved ha hM, va_Dc.moved ha hD⟩
  obtain ⟨sa, h⟩ := hTX q hq
  exact ⟨sa, vk_R.warm hW h⟩
theorem e_Sg.calling {D : va_G} {cA : Nat → ClassId} {X : e_XT} {ex : Nat → Nat} {A : Nat → Prop} {U : State} {g : JFrame} {mk : MethodId} {a : Array Value} (h : e_Sg D cA X ex A U) : e_Sg D cA X ex A (U.calling g mk a) := h.warm (locs := []) (State.WarmedH.refl U) va_S.rf
def e_XP : List (Nat × Nat × Nat × Nat × Nat × List Nat) := [(0, 130, 134, 849, 103, [100, 871, 880, 888, 891, 893, 872, 873, 131, 132, 874, 879, 889, 909, 861, 910, 863, 911, 865, 875, 877, 867, 905, 906, 908, 867, 896, 897, 898, 899, 853, 899, 900, 901, 902, 855, 902, 903, 904, 905, 857, 895, 850, 851, 858, 859, 860, 862, 864, 866, 870, 869, 868]),
  (1, 59, 63, 922, 104, [100, 871, 880, 888, 891, 893, 872, 873, 131, 132, 874, 879, 889, 909, 861, 910, 863, 911, 865, 875, 877, 867, 905, 906, 908, 867, 933, 934, 935, 899, 853, 899, 900, 901, 902, 855, 902, 903, 904, 905, 857, 932, 923, 924, 925, 884, 926, 927, 928, 929, 870, 869, 930]),
  (2, 355, 359, 1068, 111, [100, 871, 880, 888, 891, 893, 872, 873, 131, 132, 874, 879, 889, 909, 861, 910, 863, 911, 865, 875, 877, 867, 905, 906, 908, 867, 1041, 1042, 1043, 899, 853, 899, 900, 901, 902, 855, 902, 903, 904, 905, 857, 1078, 1069, 1070, 1071, 885, 1072, 1073, 1074, 1075, 870, 869, 1076]),
  (3, 455, 459, 1151, 115, [100, 871, 880, 888, 891, 893, 872, 873, 131, 132, 874, 879, 889, 909, 861, 910, 863, 911, 865, 875, 877, 867, 905, 906, 908, 867, 1162, 1163, 1164, 899, 853, 899, 900, 901, 902, 855, 902, 903, 904, 905, 857, 1161, 1152, 1153, 1154, 886, 1155, 1156, 1157, 1158, 870, 869, 1159]),
  (5, 471, 475, 1812, 124, [100, 871, 880, 888, 891, 893, 872, 873, 131, 132, 874, 879, 889, 909, 861, 910, 863, 911, 865, 875, 877, 867, 905, 906, 908, 867, 1792, 1793, 1794, 899, 853, 899, 900, 901, 902, 855, 902, 903, 904, 905, 857, 1814, 1791, 1802, 1803, 882, 1797, 1798, 1800, 1796, 870, 869, 1795])]
def e_XPck (r : Nat × Nat × Nat × Nat × Nat × List Nat) : Bool := e_w r.2.2.2.1 (.classLink "Rankhall" r.2.1 (e_en r.1)) && (e_w r.2.2.2.2.1 (.initialized (e_en r.1)) && (decide ((vx_atS "Rankhall" r.2.2.1 (e_en r.1) e_xn).map some = r.2.2.2.2.2.map e_tb) && (vx_atS "Rankhall" r.2.2.1 (e_en r.1) e_xn).all (fun w => goodWord w || e_isN w)))
theorem e_XP_ok : e_XP.all e_XPck = true := by decide +kernel
theorem e_gn {w : Cond} (hm : w ∈ lw_tbl) (h : (goodWord w || e_isN w) = true) : w ∈ e_tt ∨ w ∈ e_nt := by
  rcases (Bool.or_eq_true _ _).mp h with h | h
  · exact Or.inl (List.mem_filter.mpr ⟨hm, h⟩)
  · exact Or.inr (List.mem_filter.mpr ⟨hm, h⟩)
theorem e_tt_ot {w : Cond} (h : w ∈ e_tt ∨ w ∈ e_nt) : vx_ot w = true := by
  unfold vx_ot
  rcases h with h | h
  · rw [(List.mem_filter.mp h).2, Bool.or_true]
  · rw [e_nt_on h, Bool.true_or]
theorem e_bef {args : Array Value} {s : State} {w : Cond} (hts : ∀ w ∈ e_tt, w.before args s = true) (hnt : ∀ w ∈ e_nt, va_Nw w s) (h : w ∈ e_tt ∨ w ∈ e_nt) : w.before args s = true := by
  rcases h with h | h
  · exact hts w h
  · exact (hnt w h).use (e_nt_on h)
theorem e_XP_at {r : Nat × Nat × Nat × Nat × Nat × List Nat} (hr : r ∈ e_XP) : (Cond.classLink "Rankhall" r.2.1 (e_en r.1) ∈ e_tt ∧ Cond.initialized (e_en r.1) ∈ e_tt) ∧ ∀ w ∈ vx_atS "Rankhall" r.2.2.1 (e_en r.1) e_xn, w ∈ e_tt ∨ w ∈ e_nt := by
  have h := List.all_eq_true.mp e_XP_ok r hr
  unfold e_XPck at h
  rw [Bool.and_eq_true, Bool.and_eq_true, Bool.and_eq_true] at h
  obtain ⟨h1, h2, h3, h4⟩ := h
  refine ⟨⟨e_w_in h1, e_w_in h2⟩, fun w hw => e_gn ?_ (List.all_eq_true.mp h4 w hw)⟩
  have h5 : some w ∈ (vx_atS "Rankhall" r.2.2.1 (e_en r.1) e_xn).map some := List.mem_map.mpr ⟨w, hw, rfl⟩
  rw [of_decide_eq_true h3] at h5
  obtain ⟨p, -, h6⟩ := List.mem_map.mp h5
  exact e_tb_in h6
theorem e_xn_fit : ∀ n ∈ e_xn, Bundle.fit n = true := by decide +kernel
theorem e_en_fit : ∀ i, i < 6 → Bundle.fit (e_en i) = true := by decide +kernel
