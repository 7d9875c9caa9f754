/-! 08: soundness of the interpreter's steps that leave the heap alone -/
section e_sop
variable {p : Program} {l : Launch} {e : Env} {R : Room} {s : State} {m : MethodId} {args : Array Value} {below : List Frame} {meth : Method} {c : Code} {H : Heap} {locs : List Loc} {cells slots : Nat} {Q : State → Prop} {cc : ByteArray} {ad : Nat → Nat} {ls : Array Slot} {nL pc pc' len : Nat} {i : Instr} {ll ll' : e_LL} {st st' : List Value}
def e_rl (ad : Nat → Nat) : Value → Value := fun v => match v with
  | .ref k => .ref (ad k)
  | v => v
theorem e_rl_cat (ad : Nat → Nat) (v : Value) : (e_rl ad v).category = v.category := by cases v <;> rfl
theorem e_rl_rf (ad : Nat → Nat) (r : Option Nat) : e_rl ad (va_rf r) = va_rf (r.map ad) := by cases r <;> rfl
def e_LH (ad : Nat → Nat) (ls : Array Slot) (nL : Nat) (ll : e_LL) : Prop := lv_wf ls ∧ ls.size = nL ∧ ll.length = nL ∧ ∀ (i : Nat) (v : Value), e_ld ll i = some v → ls[i]? = some (.val (e_rl ad v))
def e_as (ad : Nat → Nat) (ll : e_LL) : List (Nat × Value) := (List.range ll.length).filterMap (fun i => (e_ld ll i).map (fun v => (i, e_rl ad v)))
theorem e_ld_lt {ll : e_LL} {i : Nat} {v : Value} (h : e_ld ll i = some v) : i < ll.length := by
  unfold e_ld at h
  rcases Nat.lt_or_ge i ll.length with h1 | h1
  · exact h1
  · rw [List.getElem?_eq_none h1] at h; cases h
theorem e_as_mem {ll : e_LL} {i : Nat} {v : Value} (h : e_ld ll i = some v) : (i, e_rl ad v) ∈ e_as ad ll := by
  unfold e_as
  rw [List.mem_filterMap]
  exact ⟨i, List.mem_range.mpr (e_ld_lt h), by rw [h]; rfl⟩
theorem e_LH.has (h : e_LH ad ls nL ll) : lv_has ls nL (e_as ad ll) := by
  refine ⟨h.2.1, h.1, fun q hq => ?_⟩
  unfold e_as at hq
  rw [List.mem_filterMap] at hq
  obtain ⟨i, _, h2⟩ := hq
  cases hv : e_ld ll i with
  | none => rw [hv] at h2; cases h2
  | some v => rw [hv] at h2; cases h2; exact h.2.2.2 i v hv
theorem e_ld_set (ll : e_LL) (i j : Nat) (x : Option Value) : e_ld (ll.set i x) j = if i = j then (if i < ll.length then x else none) else e_ld ll j := by
  unfold e_ld
  rw [List.getElem?_set]
  by_cases h : i = j
  · rw [if_pos h, if_pos h]
    by_cases h2 : i < ll.length
    · rw [if_pos h2, if_pos h2]; rfl
    · rw [if_neg h2, if_neg h2]; rfl
  · rw [if_neg h, if_neg h]
theorem e_cl_len (i : Nat) (ll : e_LL) : (e_cl i ll).length = ll.length := by
  unfold e_cl
  split
  · rfl
  · split
    · split
      · exact List.length_set
      · rfl
    · rfl
theorem e_cl_s (n : Nat) (ll : e_LL) : e_cl (n + 1) ll = match e_ld ll n with
    | some w => if w.category = 2 then ll.set n none else ll
    | none => ll := rfl
theorem e_ld_cl {i j : Nat} {ll : e_LL} {w : Value} (h : e_ld (e_cl i ll) j = some w) : e_ld ll j = some w ∧ ¬ (j + 1 = i ∧ w.category = 2) := by
  cases i with
  | zero => exact ⟨h, fun h2 => by omega⟩
  | succ n =>
    rw [e_cl_s] at h
    cases hn : e_ld ll n with
    | none => rw [hn] at h; exact ⟨h, fun h2 => by have e : j = n := by omega
                                                   subst e
                                                   have h1 : e_ld ll j = some w := h
                                                   rw [hn] at h1; cases h1⟩
    | some w0 =>
      rw [hn] at h
      by_cases hc : w0.category = 2
      · have h1 : e_ld (ll.set n none) j = some w := by have := h; simp only [if_pos hc] at this; exact this
        rw [e_ld_set] at h1
        by_cases e : n = j
        · rw [if_pos e] at h1; split at h1 <;> cases h1
        · rw [if_neg e] at h1; exact ⟨h1, fun h2 => e (by omega)⟩
      · have h1 : e_ld ll j = some w := by have := h; simp only [if_neg hc] at this; exact this
        refine ⟨h1, fun h2 => ?_⟩
        have e : j = n := by omega
        subst e
        rw [hn] at h1; cases h1; exact hc h2.2
theorem e_LH.st1 {ls' : Array Slot} {k : Nat} {v : Value} (hll : ll.length = nL) (hk : k < nL) (h : lv_has ls' nL ((k, e_rl ad v) :: (e_as ad ll).filter (fun q => !(q.1 == k) && !(q.1 + 1 == k && q.2.category == 2)))) : e_LH ad ls' nL (e_st1 k v ll) := by
  refine ⟨h.2.1, h.1, by unfold e_st1; rw [List.length_set, e_cl_len, hll], fun j w hw => ?_⟩
  unfold e_st1 at hw
  rw [e_ld_set] at hw
  by_cases ej : k = j
  · rw [if_pos ej, if_pos (by rw [e_cl_len, hll]; exact hk)] at hw
    cases hw; subst ej
    exact h.2.2 _ List.mem_cons_self
  · rw [if_neg ej] at hw
    obtain ⟨h1, h2⟩ := e_ld_cl hw
    refine h.2.2 (j, e_rl ad w) (List.mem_cons_of_mem _ (List.mem_filter.mpr ⟨e_as_mem h1, ?_⟩))
    have e1 : (j == k) = false := by rw [beq_eq_false_iff_ne]; exact fun x => ej x.symm
    show (!(j == k) && !(j + 1 == k && (e_rl ad w).category == 2)) = true
    rw [e1, e_rl_cat]
    by_cases h3 : j + 1 = k
    · have : ¬ w.category = 2 := fun x => h2 ⟨h3, x⟩
      simp [h3, this]
    · simp [h3]
theorem e_LH.st2 {ls' : Array Slot} {k : Nat} {v : Value} (hll : ll.length = nL) (hk : k + 1 < nL) (h : lv_has ls' nL ((k, e_rl ad v) :: (e_as ad ll).filter (fun q => !(q.1 == k) && (!(q.1 == k + 1) && !(q.1 + 1 == k && q.2.category == 2))))) : e_LH ad ls' nL (e_st2 k v ll) := by
  refine ⟨h.2.1, h.1, by unfold e_st2; rw [List.length_set, List.length_set, e_cl_len, hll], fun j w hw => ?_⟩
  unfold e_st2 at hw
  rw [e_ld_set] at hw
  by_cases e0 : k + 1 = j
  · rw [if_pos e0] at hw; split at hw <;> cases hw
  rw [if_neg e0, e_ld_set] at hw
  by_cases ej : k = j
  · rw [if_pos ej, if_pos (by rw [e_cl_len, hll]; omega)] at hw
    cases hw; subst ej
    exact h.2.2 _ List.mem_cons_self
  · rw [if_neg ej] at hw
    obtain ⟨h1, h2⟩ := e_ld_cl hw
    refine h.2.2 (j, e_rl ad w) (List.mem_cons_of_mem _ (List.mem_filter.mpr ⟨e_as_mem h1, ?_⟩))
    have e1 : (j == k) = false := by rw [beq_eq_false_iff_ne]; exact fun x => ej x.symm
    have e2 : (j == k + 1) = false := by rw [beq_eq_false_iff_ne]; exact fun x => e0 x.symm
    show (!(j == k) && (!(j == k + 1) && !(j + 1 == k && (e_rl ad w).category == 2))) = true
    rw [e1, e2, e_rl_cat]
    by_cases h3 : j + 1 = k
    · have : ¬ w.category = 2 := fun x => h2 ⟨h3, x⟩
      simp [h3, this]
    · simp [h3]
theorem e_jmp_eq {b : Bool} {off : Int} {nx : Nat} (h : e_jmp b pc off nx ll st = some (pc', ll', st')) : ∃ t : Nat, (pc : Int) + off = (t : Int) ∧ ll' = ll ∧ st' = st ∧ pc' = if b then t else nx := by
  unfold e_jmp at h
  cases hg : e_go pc off with
  | none => rw [hg] at h; cases h
  | some t =>
    rw [hg] at h
    cases h
    refine ⟨t, ?_, rfl, rfl, rfl⟩
    unfold e_go at hg
    split at hg
    · cases hg; assumption
    · cases hg
theorem e_n64_of {r : UInt64} (h : e_n64 r = true) : vf_n64 r := by unfold e_n64 at h; exact @of_decide_eq_true _ (_) h
theorem e_n32_of {r : UInt32} (h : e_n32 r = true) : vf_n32 r := by unfold e_n32 at h; exact @of_decide_eq_true _ (_) h
theorem e_opA_ok (hexec : p.tables.exec = Jvm.exec) (hb : c.code = cc) (h : e_opA i len pc ll st = some (pc', ll', st')) (hdg : decode cc pc = .ok (i, len)) (hl : e_LH ad ls nL ll)
    (k : ∀ ls', e_LH ad ls' nL ll' → W p l e R s m args below meth c H locs cells slots Q (F0 m pc' ls' (st'.map (e_rl ad)))) : W p l e R s m args below meth c H locs cells slots Q (F0 m pc ls (st.map (e_rl ad))) := by
  unfold e_opA at h
  split at h
  all_goals first
    | (cases h; done)
    | (cases h
       first
       | exact lv_iconst hexec hb hdg rfl (k ls hl)
       | exact lv_bipush hexec hb hdg rfl (k ls hl)
       | exact lv_sipush hexec hb hdg rfl (k ls hl)
       | exact lv_lconst hexec hb hdg rfl (k ls hl)
       | exact lv_null hexec hb hdg (k ls hl))
theorem e_opB_ok (hexec : p.tables.exec = Jvm.exec) (hb : c.code = cc) (h : e_opB i len pc ll st = some (pc', ll', st')) (hdg : decode cc pc = .ok (i, len)) (hl : e_LH ad ls nL ll)
    (k : ∀ ls', e_LH ad ls' nL ll' → W p l e R s m args below meth c H locs cells slots Q (F0 m pc' ls' (st'.map (e_rl ad)))) : W p l e R s m args below meth c H locs cells slots Q (F0 m pc ls (st.map (e_rl ad))) := by
  unfold e_opB at h
  split at h
  all_goals first
    | (cases h; done)
    | (split at h
       all_goals first
         | (cases h; done)
         | (rename_i hq
            have hq := hl.2.2.2 _ _ hq
            cases h
            first
            | exact lv_iload_n hexec hb hdg rfl hq (k ls hl)
            | exact lv_iload hexec hb hdg hq (k ls hl)
            | exact lv_lload_n hexec hb hdg rfl hq (k ls hl)
            | exact lv_lload hexec hb hdg hq (k ls hl)
            | exact lv_fload hexec hb hdg hq (k ls hl)
            | exact lv_dload hexec hb hdg hq (k ls hl)
            | exact lv_aload_n hexec hb hdg rfl hq (k ls hl)
            | exact lv_aload hexec hb hdg hq (k ls hl)
            | exact lv_aload_nN hexec hb hdg rfl hq (k ls hl)
            | exact lv_aloadN hexec hb hdg hq (k ls hl)))
theorem e_opC_ok (hexec : p.tables.exec = Jvm.exec) (hb : c.code = cc) (h : e_opC nL i len pc ll st = some (pc', ll', st')) (hdg : decode cc pc = .ok (i, len)) (hl : e_LH ad ls nL ll)
    (k : ∀ ls', e_LH ad ls' nL ll' → W p l e R s m args below meth c H locs cells slots Q (F0 m pc' ls' (st'.map (e_rl ad)))) : W p l e R s m args below meth c H locs cells slots Q (F0 m pc ls (st.map (e_rl ad))) := by
  unfold e_opC at h
  split at h
  · split at h
    · rename_i hn; cases h; exact lv_istore_n hexec hb hdg rfl hl.has hn rfl (fun ls' h' => k ls' (e_LH.st1 hl.2.2.1 hn h'))
    · cases h
  · split at h
    · rename_i hn; cases h; exact lv_istore hexec hb hdg hl.has hn rfl (fun ls' h' => k ls' (e_LH.st1 hl.2.2.1 hn h'))
    · cases h
  · split at h
    · rename_i hn; cases h; exact lv_astore_n hexec hb hdg rfl hl.has hn rfl (fun ls' h' => k ls' (e_LH.st1 hl.2.2.1 hn h'))
    · cases h
  · split at h
    · rename_i hn; cases h; exact lv_astore hexec hb hdg hl.has hn rfl (fun ls' h' => k ls' (e_LH.st1 hl.2.2.1 hn h'))
    · cases h
  · split at h
    · rename_i hn; cases h; exact lv_astore_nN hexec hb hdg rfl hl.has hn rfl (fun ls' h' => k ls' (e_LH.st1 hl.2.2.1 hn h'))
    · cases h
  · split at h
    · rename_i hn; cases h; exact lv_astoreN hexec hb hdg hl.has hn rfl (fun ls' h' => k ls' (e_LH.st1 hl.2.2.1 hn h'))
    · cases h
  · split at h
    · rename_i hn; cases h; exact lv_fstore hexec hb hdg hl.has hn rfl (fun ls' h' => k ls' (e_LH.st1 hl.2.2.1 hn h'))
    · cases h
  · split at h
    · rename_i hn; cases h; exact lv_lstore_n hexec hb hdg rfl hl.has hn rfl (fun ls' h' => k ls' (e_LH.st2 hl.2.2.1 hn h'))
    · cases h
  · split at h
    · rename_i hn; cases h; exact lv_lstore hexec hb hdg hl.has hn rfl (fun ls' h' => k ls' (e_LH.st2 hl.2.2.1 hn h'))
    · cases h
  · split at h
    · rename_i hn; cases h; exact lv_dstore hexec hb hdg hl.has hn rfl (fun ls' h' => k ls' (e_LH.st2 hl.2.2.1 hn h'))
    · cases h
  · split at h
    · rename_i hn
      split at h
      · rename_i hq
        obtain ⟨kk, hkk⟩ := List.getElem?_of_mem (e_as_mem (ad := ad) hq)
        cases h
        exact lv_iinc hexec hb hdg hl.has hkk rfl hn rfl (fun ls' h' => k ls' (e_LH.st1 hl.2.2.1 hn h'))
      · cases h
    · cases h
  · cases h
theorem e_opD_ok (hexec : p.tables.exec = Jvm.exec) (hb : c.code = cc) (h : e_opD i len pc ll st = some (pc', ll', st')) (hdg : decode cc pc = .ok (i, len)) (hl : e_LH ad ls nL ll)
    (k : ∀ ls', e_LH ad ls' nL ll' → W p l e R s m args below meth c H locs cells slots Q (F0 m pc' ls' (st'.map (e_rl ad)))) : W p l e R s m args below meth c H locs cells slots Q (F0 m pc ls (st.map (e_rl ad))) := by
  unfold e_opD at h
  split at h
  · cases h; exact lv_iadd hexec hb hdg (k ls hl)
  · cases h; exact lv_isub hexec hb hdg (k ls hl)
  · cases h; exact lv_imul hexec hb hdg (k ls hl)
  · split at h
    · cases h
    · rename_i hne; cases h; exact lv_idiv hexec hb hdg hne (k ls hl)
  · split at h
    · cases h
    · rename_i hne; cases h; exact lv_irem hexec hb hdg hne (k ls hl)
  · cases h; exact lv_ineg hexec hb hdg (k ls hl)
  · cases h; exact lv_iand hexec hb hdg (k ls hl)
  · cases h; exact lv_ior hexec hb hdg (k ls hl)
  · cases h; exact lv_ishl hexec hb hdg (k ls hl)
  · cases h; exact lv_ishr hexec hb hdg (k ls hl)
  · cases h; exact lv_iushr hexec hb hdg rfl (k ls hl)
  · cases h
theorem e_opE_ok (hexec : p.tables.exec = Jvm.exec) (hb : c.code = cc) (h : e_opE i len pc ll st = some (pc', ll', st')) (hdg : decode cc pc = .ok (i, len)) (hl : e_LH ad ls nL ll)
    (k : ∀ ls', e_LH ad ls' nL ll' → W p l e R s m args below meth c H locs cells slots Q (F0 m pc' ls' (st'.map (e_rl ad)))) : W p l e R s m args below meth c H locs cells slots Q (F0 m pc ls (st.map (e_rl ad))) := by
  unfold e_opE at h
  split at h
  · cases h; exact lv_ladd hexec hb hdg (k ls hl)
  · cases h; exact lv_lsub hexec hb hdg (k ls hl)
  · cases h; exact lv_land hexec hb hdg (k ls hl)
  · cases h; exact lv_lor hexec hb hdg (k ls hl)
  · cases h; exact lv_lshl hexec hb hdg rfl (k ls hl)
  · cases h; exact lv_lshr hexec hb hdg rfl (k ls hl)
  · cases h; exact lv_lushr hexec hb hdg rfl (k ls hl)
  · cases h; exact W.lcmp hexec hb hdg (k ls hl)
  · cases h; exact lv_i2l hexec hb hdg rfl (k ls hl)
  · cases h; exact lv_l2i hexec hb hdg rfl (k ls hl)
  · cases h; exact lv_i2c hexec hb hdg rfl (k ls hl)
  · cases h; exact lv_i2b hexec hb hdg rfl (k ls hl)
  · cases h
theorem e_opF_ok (hexec : p.tables.exec = Jvm.exec) (hb : c.code = cc) (h : e_opF i len pc ll st = some (pc', ll', st')) (hdg : decode cc pc = .ok (i, len)) (hl : e_LH ad ls nL ll)
    (k : ∀ ls', e_LH ad ls' nL ll' → W p l e R s m args below meth c H locs cells slots Q (F0 m pc' ls' (st'.map (e_rl ad)))) : W p l e R s m args below meth c H locs cells slots Q (F0 m pc ls (st.map (e_rl ad))) := by
  unfold e_opF at h
  split at h
  · cases h; exact lv_fconst0 hexec hb hdg (k ls hl)
  · cases h; exact lv_dconst0 hexec hb hdg (k ls hl)
  · cases h; exact lv_i2f hexec hb hdg (k ls hl)
  · cases h; exact lv_i2d hexec hb hdg (k ls hl)
  · cases h; exact lv_l2d hexec hb hdg (k ls hl)
  · split at h
    · rename_i hne; cases h; exact lv_f2d hexec hb hdg (e_n64_of hne) (k ls hl)
    · cases h
  · split at h
    · rename_i hne; cases h; exact lv_fdiv hexec hb hdg (e_n32_of hne) (k ls hl)
    · cases h
  · split at h
    · rename_i hne; cases h; exact lv_ddiv hexec hb hdg (e_n64_of hne) (k ls hl)
    · cases h
  · cases h; exact lv_fcmp hexec hb hdg (k ls hl)
  · cases h; exact lv_dcmp hexec hb hdg (k ls hl)
  · cases h
theorem e_opG_ok (hexec : p.tables.exec = Jvm.exec) (hb : c.code = cc) (h : e_opG i len pc ll st = some (pc', ll', st')) (hdg : decode cc pc = .ok (i, len)) (hl : e_LH ad ls nL ll)
    (k : ∀ ls', e_LH ad ls' nL ll' → W p l e R s m args below meth c H locs cells slots Q (F0 m pc' ls' (st'.map (e_rl ad)))) : W p l e R s m args below meth c H locs cells slots Q (F0 m pc ls (st.map (e_rl ad))) := by
  unfold e_opG at h
  split at h
  all_goals first
    | (cases h; done)
    | (obtain ⟨t, ht, rfl, rfl, rfl⟩ := e_jmp_eq h
       first
       | exact lv_goto hexec hb hdg ht (k ls hl)
       | exact lv_if_eq hexec hb hdg ht (fun hx => by simpa [hx] using k ls hl) (fun hx => by simpa [hx] using k ls hl)
       | exact lv_if_ne hexec hb hdg ht (fun hx => by simpa [hx] using k ls hl) (fun hx => by simpa [hx] using k ls hl)
       | exact lv_if_lt hexec hb hdg ht (fun hx => by have h9 := k ls hl; rw [decide_eq_true hx] at h9; exact h9) (fun hx => by have h9 := k ls hl; rw [decide_eq_false hx] at h9; exact h9)
       | exact lv_if_ge hexec hb hdg ht (fun hx => by have h9 := k ls hl; rw [decide_eq_true hx] at h9; exact h9) (fun hx => by have h9 := k ls hl; rw [decide_eq_false hx] at h9; exact h9)
       | exact lv_if_gt hexec hb hdg ht (fun hx => by have h9 := k ls hl; rw [decide_eq_true hx] at h9; exact h9) (fun hx => by have h9 := k ls hl; rw [decide_eq_false hx] at h9; exact h9)
       | exact lv_if_le hexec hb hdg ht (fun hx => by have h9 := k ls hl; rw [decide_eq_true hx] at h9; exact h9) (fun hx => by have h9 := k ls hl; rw [decide_eq_false hx] at h9; exact h9))
    | (split at h
       · rename_i hc
         cases h
         first
         | exact lv_dup hexec hb hdg (by rw [e_rl_cat]; exact hc) (k ls hl)
         | exact lv_pop hexec hb hdg (by rw [e_rl_cat]; exact hc) (k ls hl)
         | exact lv_dup_x1 hexec hb hdg (by rw [e_rl_cat]; exact hc.1) (by rw [e_rl_cat]; exact hc.2) (k ls hl)
         | exact lv_dup2_11 hexec hb hdg (by rw [e_rl_cat]; exact hc.1) (by rw [e_rl_cat]; exact hc.2) (k ls hl)
       · cases h)
theorem e_opH_ok (hexec : p.tables.exec = Jvm.exec) (hb : c.code = cc) (h : e_opH i len pc ll st = some (pc', ll', st')) (hdg : decode cc pc = .ok (i, len)) (hl : e_LH ad ls nL ll)
    (k : ∀ ls', e_LH ad ls' nL ll' → W p l e R s m args below meth c H locs cells slots Q (F0 m pc' ls' (st'.map (e_rl ad)))) : W p l e R s m args below meth c H locs cells slots Q (F0 m pc ls (st.map (e_rl ad))) := by
  unfold e_opH at h
  split at h
  all_goals first
    | (cases h; done)
    | (cases h
       first
       | exact lv_ifnull hexec hb hdg (k ls hl)
       | exact lv_ifnonnullN hexec hb hdg (k ls hl))
    | (obtain ⟨t, ht, rfl, rfl, rfl⟩ := e_jmp_eq h
       first
       | exact lv_icmp_eq hexec hb hdg ht (fun hx => by have h9 := k ls hl; rw [decide_eq_true hx] at h9; exact h9) (fun hx => by have h9 := k ls hl; rw [decide_eq_false hx] at h9; exact h9)
       | exact lv_icmp_ne hexec hb hdg ht (fun hx => by have h9 := k ls hl; rw [decide_eq_true hx] at h9; exact h9) (fun hx => by have h9 := k ls hl; rw [decide_eq_false (fun y => y hx)] at h9; exact h9)
       | exact lv_icmp_lt hexec hb hdg ht (fun hx => by have h9 := k ls hl; rw [decide_eq_true hx] at h9; exact h9) (fun hx => by have h9 := k ls hl; rw [decide_eq_false hx] at h9; exact h9)
       | exact lv_icmp_ge hexec hb hdg ht (fun hx => by have h9 := k ls hl; rw [decide_eq_true hx] at h9; exact h9) (fun hx => by have h9 := k ls hl; rw [decide_eq_false hx] at h9; exact h9)
       | exact lv_icmp_gt hexec hb hdg ht (fun hx => by have h9 := k ls hl; rw [decide_eq_true hx] at h9; exact h9) (fun hx => by have h9 := k ls hl; rw [decide_eq_false hx] at h9; exact h9)
       | exact lv_icmp_le hexec hb hdg ht (fun hx => by have h9 := k ls hl; rw [decide_eq_true hx] at h9; exact h9) (fun hx => by have h9 := k ls hl; rw [decide_eq_false hx] at h9; exact h9)
       | exact lv_ifnullN hexec hb hdg ht (k ls hl)
       | exact lv_ifnonnull hexec hb hdg ht (k ls hl))
    | (split at h
       · rename_i hx
         obtain ⟨t, ht, rfl, rfl, rfl⟩ := e_jmp_eq h
         first
         | exact lv_tableOut hexec hb hdg hx ht (k ls hl)
         | exact lv_lookup hexec hb hdg hx rfl ht (k ls hl)
       · rename_i hx
         first
         | (cases h; done)
         | (split at h
            · rename_i ho
              obtain ⟨t, ht, rfl, rfl, rfl⟩ := e_jmp_eq h
              exact lv_tableIn hexec hb hdg (fun y => hx (Or.inl y)) (fun y => hx (Or.inr y)) ho ht (k ls hl)
            · cases h))
theorem e_op_ok (hexec : p.tables.exec = Jvm.exec) (hb : c.code = cc) (h : e_op nL i len pc ll st = some (pc', ll', st')) (hdg : decode cc pc = .ok (i, len)) (hl : e_LH ad ls nL ll)
    (k : ∀ ls', e_LH ad ls' nL ll' → W p l e R s m args below meth c H locs cells slots Q (F0 m pc' ls' (st'.map (e_rl ad)))) : W p l e R s m args below meth c H locs cells slots Q (F0 m pc ls (st.map (e_rl ad))) := by
  unfold e_op at h
  split at h
  · rename_i hA; cases h; exact e_opA_ok hexec hb hA hdg hl k
  split at h
  · rename_i hA; cases h; exact e_opB_ok hexec hb hA hdg hl k
  split at h
  · rename_i hA; cases h; exact e_opC_ok hexec hb hA hdg hl k
  split at h
  · rename_i hA; cases h; exact e_opD_ok hexec hb hA hdg hl k
  split at h
  · rename_i hA; cases h; exact e_opE_ok hexec hb hA hdg hl k
  split at h
  · rename_i hA; cases h; exact e_opF_ok hexec hb hA hdg hl k
  split at h
  · rename_i hA; cases h; exact e_opG_ok hexec hb hA hdg hl k
  exact e_opH_ok hexec hb h hdg hl k
/-- what is held names objects that are made, or given ones -/
def e_okv (n : Nat) (v : Value) : Prop := ∀ k : Nat, v = .ref k → k < n ∨ e_xb ≤ k
def e_wfs (n : Nat) (ll : e_LL) (st : List Value) : Prop := (∀ v ∈ st, e_okv n v) ∧ ∀ (j : Nat) (v : Value), e_ld ll j = some v → e_okv n v
theorem e_okv.int {n : Nat} {x : Int32} : e_okv n (.int x) := fun _ h => by cases h
theorem e_okv.long {n : Nat} {x : Int64} : e_okv n (.long x) := fun _ h => by cases h
theorem e_okv.float {n : Nat} {x : UInt32} : e_okv n (.float x) := fun _ h => by cases h
theorem e_okv.double {n : Nat} {x : UInt64} : e_okv n (.double x) := fun _ h => by cases h
theorem e_okv.null {n : Nat} : e_okv n .null := fun _ h => by cases h
theorem e_okv.mono {n n' : Nat} {v : Value} (hn : n ≤ n') (h : e_okv n v) : e_okv n' v := fun k hk => (h k hk).elim (fun h => Or.inl (Nat.lt_of_lt_of_le h hn)) Or.inr
theorem e_wfs.mono {n n' : Nat} (hn : n ≤ n') (h : e_wfs n ll st) : e_wfs n' ll st := ⟨fun v hv => (h.1 v hv).mono hn, fun j v hv => (h.2 j v hv).mono hn⟩
theorem e_wfs.cons {n : Nat} {v : Value} (hv : e_okv n v) (h : e_wfs n ll st) : e_wfs n ll (v :: st) := ⟨fun w hw => (List.mem_cons.mp hw).elim (fun e => by rw [e]; exact hv) (h.1 w), h.2⟩
theorem e_wfs.tail {n : Nat} {v : Value} (h : e_wfs n ll (v :: st)) : e_wfs n ll st := ⟨fun w hw => h.1 w (List.mem_cons_of_mem _ hw), h.2⟩
theorem e_wfs.head {n : Nat} {v : Value} (h : e_wfs n ll (v :: st)) : e_okv n v := h.1 v List.mem_cons_self
theorem e_wfs.drop {n : Nat} (k : Nat) (h : e_wfs n ll st) : e_wfs n ll (st.drop k) := ⟨fun w hw => h.1 w (List.mem_of_mem_drop hw), h.2⟩
theorem e_wfs.st1 {n k : Nat} {v : Value} (hv : e_okv n v) (h : e_wfs n ll st) : e_wfs n (e_st1 k v ll) st := ⟨h.1, fun j w hw => by
  unfold e_st1 at hw
  rw [e_ld_set] at hw
  by_cases ej : k = j
  · rw [if_pos ej] at hw
    split at hw
    · cases hw; exact hv
    · cases hw
  · rw [if_neg ej] at hw; exact h.2 j w (e_ld_cl hw).1⟩
theorem e_wfs.st2 {n k : Nat} {v : Value} (hv : e_okv n v) (h : e_wfs n ll st) : e_wfs n (e_st2 k v ll) st := ⟨h.1, fun j w hw => by
  unfold e_st2 at hw
  rw [e_ld_set] at hw
  by_cases e0 : k + 1 = j
  · rw [if_pos e0] at hw; split at hw <;> cases hw
  rw [if_neg e0, e_ld_set] at hw
  by_cases ej : k = j
  · rw [if_pos ej] at hw
    split at hw
    · cases hw; exact hv
    · cases hw
  · rw [if_neg ej] at hw; exact h.2 j w (e_ld_cl hw).1⟩
theorem e_wfs.jmp {n : Nat} {b : Bool} {off : Int} {nx : Nat} (w : e_wfs n ll st) (h : e_jmp b pc off nx ll st = some (pc', ll', st')) : e_wfs n ll' st' := by
  obtain ⟨t, _, rfl, rfl, _⟩ := e_jmp_eq h; exact w
theorem e_opA_wf {n : Nat} (h : e_opA i len pc ll st = some (pc', ll', st')) (w : e_wfs n ll st) : e_wfs n ll' st' := by
  unfold e_opA at h
  split at h
  · cases h; exact w.cons e_okv.int
  · cases h; exact w.cons e_okv.int
  · cases h; exact w.cons e_okv.int
  · cases h; exact w.cons e_okv.long
  · cases h; exact w.cons e_okv.null
  · cases h
theorem e_opB_wf {n : Nat} (h : e_opB i len pc ll st = some (pc', ll', st')) (w : e_wfs n ll st) : e_wfs n ll' st' := by
  unfold e_opB at h
  split at h
  all_goals first
    | (cases h; done)
    | (split at h
       all_goals first
         | (cases h; done)
         | (rename_i hq; cases h; exact w.cons (w.2 _ _ hq)))
theorem e_opC_wf {n : Nat} (h : e_opC nL i len pc ll st = some (pc', ll', st')) (w : e_wfs n ll st) : e_wfs n ll' st' := by
  unfold e_opC at h
  split at h
  · split at h
    · cases h; exact e_wfs.st1 w.head w.tail
    · cases h
  · split at h
    · cases h; exact e_wfs.st1 w.head w.tail
    · cases h
  · split at h
    · cases h; exact e_wfs.st1 w.head w.tail
    · cases h
  · split at h
    · cases h; exact e_wfs.st1 w.head w.tail
    · cases h
  · split at h
    · cases h; exact e_wfs.st1 w.head w.tail
    · cases h
  · split at h
    · cases h; exact e_wfs.st1 w.head w.tail
    · cases h
  · split at h
    · cases h; exact e_wfs.st1 w.head w.tail
    · cases h
  · split at h
    · cases h; exact e_wfs.st2 w.head w.tail
    · cases h
  · split at h
    · cases h; exact e_wfs.st2 w.head w.tail
    · cases h
  · split at h
    · cases h; exact e_wfs.st2 w.head w.tail
    · cases h
  · split at h
    · split at h
      · cases h; exact e_wfs.st1 e_okv.int w
      · cases h
    · cases h
  · cases h
theorem e_opD_wf {n : Nat} (h : e_opD i len pc ll st = some (pc', ll', st')) (w : e_wfs n ll st) : e_wfs n ll' st' := by
  unfold e_opD at h
  split at h
  · cases h; exact w.tail.tail.cons e_okv.int
  · cases h; exact w.tail.tail.cons e_okv.int
  · cases h; exact w.tail.tail.cons e_okv.int
  · split at h
    · cases h
    · cases h; exact w.tail.tail.cons e_okv.int
  · split at h
    · cases h
    · cases h; exact w.tail.tail.cons e_okv.int
  · cases h; exact w.tail.cons e_okv.int
  · cases h; exact w.tail.tail.cons e_okv.int
  · cases h; exact w.tail.tail.cons e_okv.int
  · cases h; exact w.tail.tail.cons e_okv.int
  · cases h; exact w.tail.tail.cons e_okv.int
  · cases h; exact w.tail.tail.cons e_okv.int
  · cases h
theorem e_opE_wf {n : Nat} (h : e_opE i len pc ll st = some (pc', ll', st')) (w : e_wfs n ll st) : e_wfs n ll' st' := by
  unfold e_opE at h
  split at h
  · cases h; exact w.tail.tail.cons e_okv.long
  · cases h; exact w.tail.tail.cons e_okv.long
  · cases h; exact w.tail.tail.cons e_okv.long
  · cases h; exact w.tail.tail.cons e_okv.long
  · cases h; exact w.tail.tail.cons e_okv.long
  · cases h; exact w.tail.tail.cons e_okv.long
  · cases h; exact w.tail.tail.cons e_okv.long
  · cases h; exact w.tail.tail.cons e_okv.int
  · cases h; exact w.tail.cons e_okv.long
  · cases h; exact w.tail.cons e_okv.int
  · cases h; exact w.tail.cons e_okv.int
  · cases h; exact w.tail.cons e_okv.int
  · cases h
theorem e_opF_wf {n : Nat} (h : e_opF i len pc ll st = some (pc', ll', st')) (w : e_wfs n ll st) : e_wfs n ll' st' := by
  unfold e_opF at h
  split at h
  · cases h; exact w.cons e_okv.float
  · cases h; exact w.cons e_okv.double
  · cases h; exact w.tail.cons e_okv.float
  · cases h; exact w.tail.cons e_okv.double
  · cases h; exact w.tail.cons e_okv.double
  · split at h
    · cases h; exact w.tail.cons e_okv.double
    · cases h
  · split at h
    · cases h; exact w.tail.tail.cons e_okv.float
    · cases h
  · split at h
    · cases h; exact w.tail.tail.cons e_okv.double
    · cases h
  · cases h; exact w.tail.tail.cons e_okv.int
  · cases h; exact w.tail.tail.cons e_okv.int
  · cases h
theorem e_opG_wf {n : Nat} (h : e_opG i len pc ll st = some (pc', ll', st')) (w : e_wfs n ll st) : e_wfs n ll' st' := by
  unfold e_opG at h
  split at h
  · split at h
    · cases h; exact w.cons w.head
    · cases h
  · split at h
    · cases h; exact w.tail
    · cases h
  · split at h
    · cases h; exact ((w.tail.tail.cons w.head).cons w.tail.head).cons w.head
    · cases h
  · split at h
    · cases h; exact (w.cons w.tail.head).cons w.head
    · cases h
  · exact w.jmp h
  · exact w.tail.jmp h
  · exact w.tail.jmp h
  · exact w.tail.jmp h
  · exact w.tail.jmp h
  · exact w.tail.jmp h
  · exact w.tail.jmp h
  · cases h
theorem e_opH_wf {n : Nat} (h : e_opH i len pc ll st = some (pc', ll', st')) (w : e_wfs n ll st) : e_wfs n ll' st' := by
  unfold e_opH at h
  split at h
  · exact w.tail.tail.jmp h
  · exact w.tail.tail.jmp h
  · exact w.tail.tail.jmp h
  · exact w.tail.tail.jmp h
  · exact w.tail.tail.jmp h
  · exact w.tail.tail.jmp h
  · cases h; exact w.tail
  · exact w.tail.jmp h
  · cases h; exact w.tail
  · exact w.tail.jmp h
  · split at h
    · exact w.tail.jmp h
    · split at h
      · exact w.tail.jmp h
      · cases h
  · split at h
    · exact w.tail.jmp h
    · cases h
  · cases h
theorem e_op_wf {n : Nat} (h : e_op nL i len pc ll st = some (pc', ll', st')) (w : e_wfs n ll st) : e_wfs n ll' st' := by
  unfold e_op at h
  split at h
  · rename_i hA; cases h; exact e_opA_wf hA w
  split at h
  · rename_i hA; cases h; exact e_opB_wf hA w
  split at h
  · rename_i hA; cases h; exact e_opC_wf hA w
  split at h
  · rename_i hA; cases h; exact e_opD_wf hA w
  split at h
  · rename_i hA; cases h; exact e_opE_wf hA w
  split at h
  · rename_i hA; cases h; exact e_opF_wf hA w
  split at h
  · rename_i hA; cases h; exact e_opG_wf hA w
  exact e_opH_wf h w
end e_sop
