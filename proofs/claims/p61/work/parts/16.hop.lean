/-! 16: the rest of the steps on the heap; what they keep -/
section e_hs3
variable {p : Program} {l : Launch} {e : Env} {R : Room} {s : State} {m : MethodId} {args : Array Value} {below : List Frame} {meth : Method} {c : Code} {H : Heap} {locs : List Loc} {cells slots : Nat} {Q : State → Prop} {cc : ByteArray} {ad : Nat → Nat} {ls : Array Slot} {pc pc' len own : Nat} {i : Instr} {ll ll' : e_LL} {st st' : List Value} {hp hp' : e_Hp} {ini : Bool} {D : va_G} {cA : Nat → ClassId} {X : e_XT} {ex : Nat → Nat} {A : Nat → Prop}
theorem e_hE_ok (C : e_Cx own ini D cA X ex A p s m args meth c cc) (hex : ∀ x, x < 9 → ad (e_xb + x) = ex x) (h : e_hE X own i len st hp = some (st', hp')) (hdg : decode cc pc = .ok (i, len)) (hP : va_P D vwCl (e_wd cA ad hp) H) (hD : va_D A (e_wd cA ad hp)) (hS : va_S A s.heap H locs)
    (k : ∀ H' locs', va_P D vwCl (e_wd cA ad hp') H' → va_D A (e_wd cA ad hp') → va_S A s.heap H' locs' → W p l e R s m args below meth c H' locs' cells slots Q (F0 m (pc + len) ls (st'.map (e_rl ad)))) :
    W p l e R s m args below meth c H locs cells slots Q (F0 m pc ls (st.map (e_rl ad))) := by
  obtain ⟨hexec, hb, ho, hown, hini, hts, hK, hnt, hAO, hX, hX8, hZ, -⟩ := C
  unfold e_hE at h
  split at h
  · rename_i a st0
    split at h
    · rename_i hlt
      split at h
      · rename_i hc
        cases h
        obtain ⟨ty, hty⟩ := e_tyk (cA := cA) (e_kd hp a - 100) (by omega)
        rw [Nat.add_sub_cancel' hc.1] at hty
        exact va_alen hexec hb hK hP _ _ ((e_wd_get hlt).trans (congrArg some (e_ent_a rfl hc.1))) hty rfl hdg (k _ _ hP hD hS)
      · cases h
    · split at h
      · rename_i hlt hc
        cases h
        obtain ⟨hc1, hc2⟩ := hc
        have h99 : a - e_xb < 9 := Nat.sub_lt_left_of_lt_add hc1 hc2
        have h4 := hex (a - e_xb) h99
        rw [Nat.add_sub_cancel' hc1] at h4
        by_cases h8 : a - e_xb < 8
        · have h3 := hX _ h8
          rw [← h4] at h3
          exact va_tlen hexec hb h3 hS rfl hdg (k _ _ hP hD hS)
        · have e8 : a - e_xb = 8 := Nat.le_antisymm (Nat.le_of_lt_succ h99) (Nat.le_of_not_lt h8)
          rw [e8] at h4 k
          have h3 := hX8.2
          rw [← h4] at h3
          rw [hX8.1] at k
          exact va_tlen hexec hb h3 hS rfl hdg (k _ _ hP hD hS)
      · cases h
  · rename_i ix a st0
    split at h
    · rename_i r hr
      split at h
      · rename_i hc
        cases h
        obtain ⟨hm, rfl⟩ := e_find hr
        have h1 := List.all_eq_true.mp (List.all_eq_true.mp e_KL_ok own (List.mem_range.mpr ho)) r hm
        exact va_castS hexec hb hown (hts _ (e_w_in h1)) (hK.1 _ _ (e_vw _ hc.2.2)).2 (va_recv hK hP (e_vw _ hc.2.2) ((e_wd_get hc.1).trans (congrArg some (e_ent_o hc.2.1 hc.2.2)))) hdg (k _ _ hP hD hS)
      · cases h
    · cases h
  · cases h
    exact lv_castN hexec hb hdg (k _ _ hP hD hS)
  · rename_i ix st0
    split at h
    · rename_i r hr
      cases h
      obtain ⟨hm, rfl⟩ := e_find hr
      have h1 := List.all_eq_true.mp (List.all_eq_true.mp e_SL_ok own (List.mem_range.mpr ho)) r hm
      unfold e_SLck at h1
      rw [Bool.and_eq_true] at h1
      have h2 := of_decide_eq_true h1.1
      have k9 := k _ _ hP hD hS
      rw [List.map_cons] at k9
      have e6 : e_rl ad (.ref (e_xb + r.2.1)) = .ref (ex r.2.1) := congrArg Value.ref (hex _ (by omega))
      rw [e6] at k9
      exact va_gets hexec hb (hZ _ h2.1 h2.2) hS hown (hts _ (e_w_in h1.2)) (fun x hx => hx) hdg k9
    · cases h
  · split at h
    · rename_i r hr
      cases h
      obtain ⟨hm, rfl⟩ := e_find hr
      have h1 := List.all_eq_true.mp (List.all_eq_true.mp e_KI_ok own (List.mem_range.mpr ho)) r hm
      exact lv_ldc hexec hb hown (hts _ (e_w_in h1)) hdg (k _ _ hP hD hS)
    · cases h
  · split at h
    · rename_i r hr
      cases h
      obtain ⟨hm, rfl⟩ := e_find hr
      have h1 := List.all_eq_true.mp (List.all_eq_true.mp e_KI_ok own (List.mem_range.mpr ho)) r hm
      exact lv_ldcw hexec hb hown (hts _ (e_w_in h1)) hdg (k _ _ hP hD hS)
    · cases h
  · split at h
    · rename_i r hr
      cases h
      obtain ⟨hm, rfl⟩ := e_find hr
      have h1 := List.all_eq_true.mp (List.all_eq_true.mp e_KJ_ok own (List.mem_range.mpr ho)) r hm
      exact lv_ldc2 hexec hb hown (hts _ (e_w_in h1)) hdg (k _ _ hP hD hS)
    · cases h
  · cases h
/-! what the steps keep: the heap stays well formed, it only grows -/
def e_grow (h h' : e_Hp) : Prop := e_n h ≤ e_n h' ∧ e_c h ≤ e_c h' ∧ e_s h ≤ e_s h'
theorem e_grow.rfl' {h : e_Hp} : e_grow h h := ⟨Nat.le_refl _, Nat.le_refl _, Nat.le_refl _⟩
theorem e_grow.trans {h h' h'' : e_Hp} (a : e_grow h h') (b : e_grow h' h'') : e_grow h h'' := ⟨Nat.le_trans a.1 b.1, Nat.le_trans a.2.1 b.2.1, Nat.le_trans a.2.2 b.2.2⟩
theorem e_grow.set {h : e_Hp} {a k : Nat} {v : Value} : e_grow h (e_set h a k v) := ⟨Nat.le_refl _, Nat.le_refl _, Nat.le_refl _⟩
theorem e_grow.new {h : e_Hp} {kd ln sl : Nat} : e_grow h (e_new h kd ln sl) := ⟨Nat.le_succ _, Nat.le_succ _, Nat.le_add_right _ _⟩
/-- the result of a step: stack and heap are well formed again -/
def e_ok2 (hp : e_Hp) (ll : e_LL) (st' : List Value) (hp' : e_Hp) : Prop := e_wh hp' ∧ e_wfs (e_n hp') ll st' ∧ e_grow hp hp'
theorem e_hA_wf (h : e_hA own ini i len st hp = some (st', hp')) (hw : e_wh hp) (w : e_wfs (e_n hp) ll st) : e_ok2 hp ll st' hp' ∧ e_c hp' = e_c hp ∧ e_s hp' = e_s hp ∧ e_n hp' = e_n hp := by
  unfold e_hA at h
  split at h
  · split at h
    · split at h
      · rename_i hc
        cases h
        exact ⟨⟨hw, w.tail.cons ((hw _ _ hc.1).rd _), e_grow.rfl'⟩, rfl, rfl, rfl⟩
      · cases h
    · cases h
  · split at h
    · split at h
      · cases h
        exact ⟨⟨hw.set w.head, w.tail.tail, e_grow.set⟩, rfl, rfl, rfl⟩
      · cases h
    · cases h
  · cases h
theorem e_hB_wf (h : e_hB X i len st hp = some (st', hp')) (hw : e_wh hp) (w : e_wfs (e_n hp) ll st) : e_ok2 hp ll st' hp' ∧ e_c hp' = e_c hp ∧ e_s hp' = e_s hp ∧ e_n hp' = e_n hp := by
  unfold e_hB at h
  split at h
  · split at h
    · split at h
      · cases h; exact ⟨⟨hw, w.tail.tail.cons e_okv.int, e_grow.rfl'⟩, rfl, rfl, rfl⟩
      · cases h
    · split at h
      · cases h; exact ⟨⟨hw, w.tail.tail.cons e_okv.int, e_grow.rfl'⟩, rfl, rfl, rfl⟩
      · cases h
  · split at h
    · cases h; exact ⟨⟨hw, w.tail.tail.cons e_okv.int, e_grow.rfl'⟩, rfl, rfl, rfl⟩
    · cases h
  · split at h
    · cases h; exact ⟨⟨hw, w.tail.tail.cons e_okv.int, e_grow.rfl'⟩, rfl, rfl, rfl⟩
    · cases h
  · split at h
    · cases h; exact ⟨⟨hw, w.tail.tail.cons e_okv.long, e_grow.rfl'⟩, rfl, rfl, rfl⟩
    · cases h
  · split at h
    · rename_i hc; cases h; exact ⟨⟨hw, w.tail.tail.cons (e_okv.rf _ (hw _ _ hc.1).toO), e_grow.rfl'⟩, rfl, rfl, rfl⟩
    · cases h
  · cases h
theorem e_hC_wf (h : e_hC i len st hp = some (st', hp')) (hw : e_wh hp) (w : e_wfs (e_n hp) ll st) : e_ok2 hp ll st' hp' ∧ e_c hp' = e_c hp ∧ e_s hp' = e_s hp ∧ e_n hp' = e_n hp := by
  unfold e_hC at h
  split at h
  · split at h
    · cases h; exact ⟨⟨hw.set e_okv.int, w.tail.tail.tail, e_grow.set⟩, rfl, rfl, rfl⟩
    · cases h
  · split at h
    · cases h; exact ⟨⟨hw.set e_okv.int, w.tail.tail.tail, e_grow.set⟩, rfl, rfl, rfl⟩
    · cases h
  · split at h
    · cases h; exact ⟨⟨hw.set e_okv.int, w.tail.tail.tail, e_grow.set⟩, rfl, rfl, rfl⟩
    · cases h
  · split at h
    · cases h; exact ⟨⟨hw.set e_okv.long, w.tail.tail.tail, e_grow.set⟩, rfl, rfl, rfl⟩
    · cases h
  · split at h
    · cases h; exact ⟨⟨hw.set e_okv.null, w.tail.tail.tail, e_grow.set⟩, rfl, rfl, rfl⟩
    · cases h
  · split at h
    · cases h; exact ⟨⟨hw.set w.head, w.tail.tail.tail, e_grow.set⟩, rfl, rfl, rfl⟩
    · cases h
  · cases h
theorem e_okv.new {n : Nat} : e_okv (n + 1) (.ref n) := fun k hk => by cases hk; exact Or.inl (Nat.lt_succ_self _)
theorem e_hD_wf (h : e_hD own i len st hp = some (st', hp')) (hw : e_wh hp) (w : e_wfs (e_n hp) ll st) : e_ok2 hp ll st' hp' := by
  unfold e_hD at h
  split at h
  · split at h
    · split at h
      · cases h; exact ⟨hw.new, (w.mono (Nat.le_succ _)).cons e_okv.new, e_grow.new⟩
      · cases h
    · cases h
  · split at h
    · cases h; exact ⟨hw.new, (w.tail.mono (Nat.le_succ _)).cons e_okv.new, e_grow.new⟩
    · cases h
  · split at h
    · split at h
      · cases h; exact ⟨hw.new, (w.tail.mono (Nat.le_succ _)).cons e_okv.new, e_grow.new⟩
      · cases h
    · cases h
  · cases h
theorem e_hE_wf (h : e_hE X own i len st hp = some (st', hp')) (hw : e_wh hp) (w : e_wfs (e_n hp) ll st) : e_ok2 hp ll st' hp' ∧ e_c hp' = e_c hp ∧ e_s hp' = e_s hp ∧ e_n hp' = e_n hp := by
  unfold e_hE at h
  split at h
  · split at h
    · split at h
      · cases h; exact ⟨⟨hw, w.tail.cons e_okv.int, e_grow.rfl'⟩, rfl, rfl, rfl⟩
      · cases h
    · split at h
      · cases h; exact ⟨⟨hw, w.tail.cons e_okv.int, e_grow.rfl'⟩, rfl, rfl, rfl⟩
      · cases h
  · split at h
    · split at h
      · cases h; exact ⟨⟨hw, w, e_grow.rfl'⟩, rfl, rfl, rfl⟩
      · cases h
    · cases h
  · cases h; exact ⟨⟨hw, w, e_grow.rfl'⟩, rfl, rfl, rfl⟩
  · split at h
    · cases h; exact ⟨⟨hw, w.cons (fun k hk => by cases hk; exact Or.inr (Nat.le_add_right _ _)), e_grow.rfl'⟩, rfl, rfl, rfl⟩
    · cases h
  · split at h
    · cases h; exact ⟨⟨hw, w.cons e_okv.int, e_grow.rfl'⟩, rfl, rfl, rfl⟩
    · cases h
  · split at h
    · cases h; exact ⟨⟨hw, w.cons e_okv.int, e_grow.rfl'⟩, rfl, rfl, rfl⟩
    · cases h
  · split at h
    · cases h; exact ⟨⟨hw, w.cons e_okv.long, e_grow.rfl'⟩, rfl, rfl, rfl⟩
    · cases h
  · cases h
theorem e_hop_wf (h : e_hop X own ini i len st hp = some (st', hp')) (hw : e_wh hp) (w : e_wfs (e_n hp) ll st) : e_ok2 hp ll st' hp' := by
  unfold e_hop at h
  split at h
  · rename_i hA; cases h; exact (e_hA_wf hA hw w).1
  split at h
  · rename_i hA; cases h; exact (e_hB_wf hA hw w).1
  split at h
  · rename_i hA; cases h; exact (e_hC_wf hA hw w).1
  split at h
  · rename_i hA; cases h; exact e_hD_wf hA hw w
  exact (e_hE_wf h hw w).1
theorem e_hop_ok (C : e_Cx own ini D cA X ex A p s m args meth c cc) (hex : ∀ x, x < 9 → ad (e_xb + x) = ex x) (h : e_hop X own ini i len st hp = some (st', hp')) (hdg : decode cc pc = .ok (i, len)) (hwh : e_wh hp) (hst : ∀ v ∈ st, e_okv (e_n hp) v) (hP : va_P D vwCl (e_wd cA ad hp) H) (hD : va_D A (e_wd cA ad hp)) (hS : va_S A s.heap H locs)
    (hroom : cells + (e_c hp' - e_c hp) ≤ R.cells ∧ slots + (e_s hp' - e_s hp) ≤ R.slots)
    (k : ∀ ad' H' locs', e_ag (e_n hp) ad ad' → va_P D vwCl (e_wd cA ad' hp') H' → va_D A (e_wd cA ad' hp') → va_S A s.heap H' locs' → W p l e R s m args below meth c H' locs' (cells + (e_c hp' - e_c hp)) (slots + (e_s hp' - e_s hp)) Q (F0 m (pc + len) ls (st'.map (e_rl ad')))) :
    W p l e R s m args below meth c H locs cells slots Q (F0 m pc ls (st.map (e_rl ad))) := by
  have w : e_wfs (e_n hp) [] st := ⟨hst, fun j v hv => by unfold e_ld at hv; cases hv⟩
  have kk : e_c hp' = e_c hp → e_s hp' = e_s hp → ∀ H' locs', va_P D vwCl (e_wd cA ad hp') H' → va_D A (e_wd cA ad hp') → va_S A s.heap H' locs' → W p l e R s m args below meth c H' locs' cells slots Q (F0 m (pc + len) ls (st'.map (e_rl ad))) := by
    intro e1 e2 H' locs' a b c
    have k9 := k ad H' locs' e_ag.rfl' a b c
    rw [e1, e2, Nat.sub_self, Nat.sub_self] at k9
    exact k9
  unfold e_hop at h
  split at h
  · rename_i hA; cases h; have w9 := (e_hA_wf hA hwh w).2; exact e_hA_ok C hA hdg hP hD hS (kk w9.1 w9.2.1)
  split at h
  · rename_i hA; cases h; have w9 := (e_hB_wf hA hwh w).2; exact e_hB_ok C hex hA hdg hP hD hS (kk w9.1 w9.2.1)
  split at h
  · rename_i hA; cases h; have w9 := (e_hC_wf hA hwh w).2; exact e_hC_ok C hA hdg hP hD hS (kk w9.1 w9.2.1)
  split at h
  · rename_i hA; cases h; exact e_hD_ok C hA hdg hwh hst hP hD hS hroom k
  have w9 := (e_hE_wf h hwh w).2
  exact e_hE_ok C hex h hdg hP hD hS (kk w9.1 w9.2.1)
end e_hs3
