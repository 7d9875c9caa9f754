/-! 79: knobs, couplers, stops are published -/
theorem s_gI1 {T : Nat} {p : e_Sp} {I I' : e_I} {j : Nat} (hv : p.2.1 T j = false) (h : ∀ F m, I' F m = I F m ∨ (e_FI F = (T, (e_FI F).2.1, 1) ∧ m = j)) : ∀ F m, F < e_NI → p.2.1 (e_FI F).1 (m / (e_FI F).2.2) = true → I' F m = I F m := fun F m _ h1 => by
  rcases h F m with e | ⟨e1, rfl⟩
  · exact e
  · rw [e1] at h1
    have h1 : p.2.1 T (m / 1) = true := h1
    rw [Nat.div_one, hv] at h1
    cases h1
theorem s_up_or {I I0 : e_I} {F j T sl : Nat} {x : Int32} (hF : e_FI F = (T, sl, 1)) (h : ∀ F m, I F m = I0 F m ∨ (e_FI F = (T, (e_FI F).2.1, 1) ∧ m = j)) : ∀ F' m, s_up I F j x F' m = I0 F' m ∨ (e_FI F' = (T, (e_FI F').2.1, 1) ∧ m = j) := fun F' m => by
  by_cases e : F' = F ∧ m = j
  · obtain ⟨rfl, rfl⟩ := e
    exact Or.inr ⟨by rw [hF], rfl⟩
  · rw [show s_up I F j x F' m = I F' m from if_neg e]
    exact h F' m
def s_cI (I : e_I) (j : Nat) (x y z t : Int32) : e_I := s_up (s_up (s_up (s_up I f_c_from j x) f_c_to j y) f_c_shift j z) f_c_kind j t
def s_kI (I : e_I) (j : Nat) (x y : Int32) : e_I := s_up (s_up (s_up (s_up (s_up (s_up I f_k_kind j x) f_k_division j y) f_k_isOut j 0) f_k_isLocked j 0) f_k_isInScope j 1) f_k_relay j (-1)
def s_sI (I : e_I) (j : Nat) : e_I := s_up (s_up I f_s_stage j 0) f_s_rows j 0
section s_pk
variable {X : e_XT} {d : Nat} {K : e_KT} {pc b j : Nat} {ll : e_LL} {st : List Value} {p : e_Sp} {I : e_I} {J : e_Jt} {c : Nat × Nat} {w : e_Rw1} {Q : e_Rt → e_SS → Prop} {f : Nat → Value} {x y z t : Int32}
set_option maxRecDepth 100000 in
theorem s_is.pubC {h : e_Hp} (hs : s_is (p, I, J, c, s_rw w b (6, 0, f)) h) (hC : p.2.1 T_COUP j = false) (hK : p.2.1 T_KNOB j = false) (hb : w b = none) (hf : e_toI (f 0) = x ∧ e_toI (f 1) = y ∧ e_toI (f 2) = z ∧ e_toI (f 3) = t) : s_is (s_pv p T_COUP j b 0, s_cI I j x y z t, J, c, w) h := by
  have h0 : ∀ F m, I F m = I F m ∨ (e_FI F = (T_COUP, (e_FI F).2.1, 1) ∧ m = j) := fun _ _ => Or.inl rfl
  have hs1 := hs.gI (I' := s_cI I j x y z t) (J' := J) (s_gI1 hC (s_up_or (sl := 3) rfl (s_up_or (sl := 2) rfl (s_up_or (sl := 1) rfl (s_up_or (sl := 0) rfl h0))))) (fun _ _ _ _ => rfl)
  have hs2 := hs1.pub (t := T_COUP) (i := j) (a := b) (n := 0) (ln := 0) (f := f) s_rw_s (by decide) rfl hC ⟨by decide, by decide, by decide, fun z => absurd z (by decide)⟩
    (s_hol.of (LI := [f_c_from, f_c_to, f_c_shift, f_c_kind]) (LJ := []) (LG := []) (by decide +kernel) (by decide +kernel) (by decide +kernel) (fun F hF => by
      rcases List.mem_cons.mp hF with rfl | hF
      · exact s_hI1 (sl := 0) rfl (by rw [hf.1]; unfold s_cI; repeat (first | rw [s_up_s] | rw [s_up_F (by decide)]))
      rcases List.mem_cons.mp hF with rfl | hF
      · exact s_hI1 (sl := 1) rfl (by rw [hf.2.1]; unfold s_cI; repeat (first | rw [s_up_s] | rw [s_up_F (by decide)]))
      rcases List.mem_cons.mp hF with rfl | hF
      · exact s_hI1 (sl := 2) rfl (by rw [hf.2.2.1]; unfold s_cI; repeat (first | rw [s_up_s] | rw [s_up_F (by decide)]))
      obtain rfl := List.mem_singleton.mp hF
      exact s_hI1 (sl := 3) rfl (by rw [hf.2.2.2]; unfold s_cI; repeat (first | rw [s_up_s] | rw [s_up_F (by decide)]))) (fun F hF => nomatch hF) (fun F hF => nomatch hF) (fun z => absurd z (by decide)))
    (fun G hG e9 => by
      have := s_mPG hG e9
      rw [show s_PG T_COUP = [] by decide +kernel] at this
      cases this) (fun _ => hK)
  rw [s_rw_un hb] at hs2
  exact hs2
set_option maxRecDepth 100000 in
theorem s_is.pubS {h : e_Hp} (hs : s_is (p, I, J, c, s_rw w b (12, 0, s_stf p j s_nul)) h) (hC : p.2.1 T_STOP j = false) (hK : p.2.1 T_KNOB j = false) (hb : w b = none) : s_is (s_pv p T_STOP j b 0, s_sI I j, J, c, w) h := by
  have h0 : ∀ F m, I F m = I F m ∨ (e_FI F = (T_STOP, (e_FI F).2.1, 1) ∧ m = j) := fun _ _ => Or.inl rfl
  have hs1 := hs.gI (I' := s_sI I j) (J' := J) (s_gI1 hC (s_up_or (sl := 1) rfl (s_up_or (sl := 0) rfl h0))) (fun _ _ _ _ => rfl)
  have e1 : ∀ T, T ≠ T_STOP → (s_pv p T_STOP j b 0).1 T j = p.1 T j := fun T hT => s_pv_n (fun z => hT z.1)
  have hs2 := hs1.pub (t := T_STOP) (i := j) (a := b) (n := 0) (ln := 0) (f := s_stf p j s_nul) s_rw_s (by decide) rfl hC ⟨by decide, by decide, by decide, fun z => absurd z (by decide)⟩
    (s_hol.of (LI := [f_s_stage, f_s_rows]) (LJ := []) (LG := [g_s_ranks, g_s_offsets, g_s_firsts, g_s_lasts, g_s_places, g_s_keysAt]) (by decide +kernel) (by decide +kernel) (by decide +kernel) (fun F hF => by
      rcases List.mem_cons.mp hF with rfl | hF
      · exact s_hI1 (sl := 0) rfl (by simp [s_sI, s_up, s_stf, s_fu, s_nul, e_toI])
      obtain rfl := List.mem_singleton.mp hF
      exact s_hI1 (sl := 1) rfl (by simp [s_sI, s_up, s_stf, s_fu, s_nul, e_toI])) (fun F hF => nomatch hF) (fun G hG => by
      rcases List.mem_cons.mp hG with rfl | hG
      · show _ = some ((s_pv p T_STOP j b 0).1 T_S_ranks j); rw [e1 _ (by decide)]; rfl
      rcases List.mem_cons.mp hG with rfl | hG
      · show _ = some ((s_pv p T_STOP j b 0).1 T_S_offsets j); rw [e1 _ (by decide)]; rfl
      rcases List.mem_cons.mp hG with rfl | hG
      · show _ = some ((s_pv p T_STOP j b 0).1 T_S_firsts j); rw [e1 _ (by decide)]; rfl
      rcases List.mem_cons.mp hG with rfl | hG
      · show _ = some ((s_pv p T_STOP j b 0).1 T_S_lasts j); rw [e1 _ (by decide)]; rfl
      rcases List.mem_cons.mp hG with rfl | hG
      · show _ = some ((s_pv p T_STOP j b 0).1 T_S_places j); rw [e1 _ (by decide)]; rfl
      obtain rfl := List.mem_singleton.mp hG
      show _ = some ((s_pv p T_STOP j b 0).1 T_S_keysAt j); rw [e1 _ (by decide)]; rfl) (fun z => absurd z (by decide)))
    (fun G hG e9 => by
      have := s_mPG hG e9
      rw [show s_PG T_STOP = [] by decide +kernel] at this
      cases this) (fun _ => hK)
  rw [s_rw_un hb] at hs2
  exact hs2
set_option maxRecDepth 100000 in
theorem s_is.pubK {h : e_Hp} (hs : s_is (p, I, J, c, s_rw w b (8, 0, f)) h) (hK : p.2.1 T_KNOB j = false) (hb : w b = none) (hf : e_toI (f 0) = x ∧ e_toI (f 1) = y ∧ e_toI (f 4) = 0 ∧ e_toI (f 5) = 0 ∧ e_toI (f 6) = 1 ∧ e_toI (f 7) = -1) (h2 : e_toO (f 2) = (if p.2.1 T_STOP j = true then some (p.1 T_STOP j) else none)) (h3 : e_toO (f 3) = (if p.2.1 T_COUP j = true then some (p.1 T_COUP j) else none)) : s_is (s_pv p T_KNOB j b 0, s_kI I j x y, J, c, w) h := by
  have h0 : ∀ F m, I F m = I F m ∨ (e_FI F = (T_KNOB, (e_FI F).2.1, 1) ∧ m = j) := fun _ _ => Or.inl rfl
  have hs1 := hs.gI (I' := s_kI I j x y) (J' := J) (s_gI1 hK (s_up_or (sl := 7) rfl (s_up_or (sl := 6) rfl (s_up_or (sl := 5) rfl (s_up_or (sl := 4) rfl (s_up_or (sl := 1) rfl (s_up_or (sl := 0) rfl h0))))))) (fun _ _ _ _ => rfl)
  have hs2 := hs1.pub (t := T_KNOB) (i := j) (a := b) (n := 0) (ln := 0) (f := f) s_rw_s (by decide) rfl hK ⟨by decide, by decide, by decide, fun z => absurd z (by decide)⟩
    (s_hol.of (LI := [f_k_kind, f_k_division, f_k_isOut, f_k_isLocked, f_k_isInScope, f_k_relay]) (LJ := []) (LG := []) (by decide +kernel) (by decide +kernel) (by decide +kernel) (fun F hF => by
      obtain ⟨f0, f1, f4, f5, f6, f7⟩ := hf
      rcases List.mem_cons.mp hF with rfl | hF
      · exact s_hI1 (sl := 0) rfl (by rw [f0]; unfold s_kI; repeat (first | rw [s_up_s] | rw [s_up_F (by decide)]))
      rcases List.mem_cons.mp hF with rfl | hF
      · exact s_hI1 (sl := 1) rfl (by rw [f1]; unfold s_kI; repeat (first | rw [s_up_s] | rw [s_up_F (by decide)]))
      rcases List.mem_cons.mp hF with rfl | hF
      · exact s_hI1 (sl := 4) rfl (by rw [f4]; unfold s_kI; repeat (first | rw [s_up_s] | rw [s_up_F (by decide)]))
      rcases List.mem_cons.mp hF with rfl | hF
      · exact s_hI1 (sl := 5) rfl (by rw [f5]; unfold s_kI; repeat (first | rw [s_up_s] | rw [s_up_F (by decide)]))
      rcases List.mem_cons.mp hF with rfl | hF
      · exact s_hI1 (sl := 6) rfl (by rw [f6]; unfold s_kI; repeat (first | rw [s_up_s] | rw [s_up_F (by decide)]))
      obtain rfl := List.mem_singleton.mp hF
      exact s_hI1 (sl := 7) rfl (by rw [f7]; unfold s_kI; repeat (first | rw [s_up_s] | rw [s_up_F (by decide)]))) (fun F hF => nomatch hF) (fun F hF => nomatch hF) (fun _ => by
      rw [s_pv_n (fun z => absurd z.1 (by decide)), s_pv_n (fun z => absurd z.1 (by decide)), s_pv_nv (fun z => absurd z.1 (by decide)), s_pv_nv (fun z => absurd z.1 (by decide))]
      exact ⟨h2, h3⟩))
    (fun G hG e9 => by
      have := s_mPG hG e9
      rw [show s_PG T_KNOB = [] by decide +kernel] at this
      cases this) (fun z => absurd z (by decide))
  rw [s_rw_un hb] at hs2
  exact hs2
end s_pk
/-! functions look at the ranks' rows alone -/
theorem s_fsp.v {p p' : e_Sp} (hl : p'.2.2.1 T_PARR = p.2.2.1 T_PARR) (hb : p'.2.2.2.2 = p.2.2.2.2) : s_fsp p' = s_fsp p := by
  funext nr a
  have h : s_fsR p' = s_fsR p := by
    funext r a
    unfold s_fsR s_fsP
    rw [hl, hb]
  unfold s_fsp
  rw [h]
theorem s_fg.v {p p' : e_Sp} (hl : p'.2.2.1 T_PARR = p.2.2.1 T_PARR) (hb : p'.2.2.2.2 = p.2.2.2.2) : s_fg p' = s_fg p := by
  funext nr a
  have h : s_fgR p' = s_fgR p := by
    funext r a
    unfold s_fgR s_fgP
    rw [hl, hb]
  unfold s_fg
  rw [h]
theorem s_pat.v {p p' : e_Sp} (hl : p'.2.2.1 T_PARR = p.2.2.1 T_PARR) (hb : p'.2.2.2.2 = p.2.2.2.2) : s_pat p' = s_pat p := by
  funext I nr a b
  unfold s_pat s_pof
  rw [hl, hb]
theorem s_fs.v {p p' : e_Sp} (hl : p'.2.2.1 T_PARR = p.2.2.1 T_PARR) (hb : p'.2.2.2.2 = p.2.2.2.2) : s_fs p' = s_fs p := by
  funext nk nr a
  have h : s_frK p' = s_frK p := by
    funext nr k I
    unfold s_frK s_arS s_arK s_arR
    rw [s_pat.v hl hb]
  unfold s_fs
  rw [h]
theorem s_stl.v {p p' : e_Sp} (hl : p'.2.2.1 T_PARR = p.2.2.1 T_PARR) (hb : p'.2.2.2.2 = p.2.2.2.2) : s_stl p' = s_stl p := by
  funext nk nr a
  unfold s_stl s_set2 s_set1
  rw [s_fsp.v hl hb, s_fs.v hl hb, s_fg.v hl hb, hl, hb]
/-- the class stands in a shape whose lists' rows are others -/
theorem s_D.v {p p' : e_Sp} {I : e_I} {nk nr : Nat} (h : s_D p I nk nr) (hx : ∀ t, t ≠ T_LARR → p'.2.1 t = p.2.1 t) (hl : p'.2.2.1 T_PARR = p.2.2.1 T_PARR) (hb : p'.2.2.2.2 = p.2.2.2.2) : s_D p' I nk nr := by
  obtain ⟨⟨⟨a1, a2⟩, b1, b2, b3, b4⟩, c1, c2, c3⟩ := h
  refine ⟨⟨⟨fun t ht => by rw [hx t (fun z => by rw [z] at ht; revert ht; decide)]; exact a1 t ht, fun l hl9 => by rw [hx _ (by decide)]; exact a2 l hl9⟩, b1, b2, fun k hk => ?_, fun r hr => by rw [hx _ (by decide)]; exact b4 r hr⟩, fun r hr => ?_, by rw [hb, hl]; exact c2, fun k hk hk9 => ?_⟩
  · rw [hx T_KNOB (by decide), hx T_STOP (by decide), hx T_COUP (by decide)]
    exact b3 k hk
  · have := c1 r hr
    unfold s_Rk at this ⊢
    rw [hx T_RANK (by decide), hx T_PARR (by decide), hx T_PIPE (by decide), hl, hb]
    exact this
  · obtain ⟨d1, d2⟩ := c3 k hk hk9
    refine ⟨fun t ht => ?_, d2⟩
    rw [hx t (fun z => by rw [z] at ht; revert ht; decide)]
    exact d1 t ht
theorem s_Tp.v {p p' : e_Sp} {I : e_I} {c : Nat × Nat} {a b x y : Nat} (h : s_Tp p I c a b) (h1 : p'.2.1 T_TAPE = p.2.1 T_TAPE) (h2 : p'.2.2.1 T_ENTR 0 = p.2.2.1 T_ENTR 0) (h3 : p'.2.1 T_ENTR 0 = p.2.1 T_ENTR 0) (ha : a + x ≤ 4294960000) : s_Tp p' I (c.1 + x, c.2 + y) (a + x) (b + y) := by
  obtain ⟨t1, ⟨k, t2, t3, t4, t5⟩, t6, t7, t8, t9⟩ := h
  refine ⟨fun i hi => t1 i (by rw [← h1]; exact hi), ⟨k, by rw [h2]; exact t2, t3, by show c.1 + x = _; omega, by show c.2 + y + 512 = _; rw [h2]; omega, by show a + x ≤ c.1 + x; omega, by show b + y ≤ c.2 + y; omega⟩, by rw [h2]; exact t6, fun i hi => t7 i (by rw [← h2]; exact hi), ha, by rw [h3]; exact t9⟩
