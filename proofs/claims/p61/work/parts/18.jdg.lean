/-! 18: the judgement: from here the method comes to its end with r, and the heap is h' -/
abbrev e_KT : Type := Nat × Bool × ByteArray × Nat × List (Nat × Nat × Nat × Nat)
abbrev e_Rt : Type := Option Value ⊕ Nat
def e_okr (n : Nat) (r : e_Rt) : Prop := match r with
  | .inl (some v) => e_okv n v
  | _ => True
def e_Cf (K : e_KT) (D : va_G) (cA : Nat → ClassId) (X : e_XT) (ex : Nat → Nat) (A : Nat → Prop) (p : Program) (l : Launch) (s : State) (m : MethodId) (args : Array Value) (meth : Method) (c : Code) : Prop :=
  e_Cx K.1 K.2.1 D cA X ex A p s m args meth c K.2.2.1 ∧ e_Sg D cA X ex A s ∧ c.maxLocals = K.2.2.2.1 ∧ meth.locks = false ∧ c.exceptionTable.toList = tableOf K.2.2.2.2 ∧ l.stackTraces = false
def e_ri (i : Instr) (v : Option Value) : Bool := match i, v with
  | .ireturn, some (.int _) => true
  | .lreturn, some (.long _) => true
  | .freturn, some (.float _) => true
  | .dreturn, some (.double _) => true
  | .areturn, some (.ref _) => true
  | .areturn, some .null => true
  | .return_, none => true
  | _, _ => false
/-- what is owed at the end -/
def e_Fin (K : e_KT) (D : va_G) (cA : Nat → ClassId) (A : Nat → Prop) (p : Program) (l : Launch) (e : Env) (R : Room) (s : State) (m : MethodId) (args : Array Value) (below : List Frame) (meth : Method) (c : Code) (Q : State → Prop) (ad : Nat → Nat) (n : Nat) (r : e_Rt) (h' : e_Hp) (cells slots : Nat) : Prop := match r with
  | .inl v => ∀ (ad' : Nat → Nat) (H' : Heap) (locs' : List Loc) (ls' : Array Slot) (pc' : Nat) (i : Instr), decode K.2.2.1 pc' = .ok (i, 1) → e_ri i v = true → e_ag n ad ad' → va_P D vwCl (e_wd cA ad' h') H' → va_D A (e_wd cA ad' h') → va_S A s.heap H' locs' → ls'.size = K.2.2.2.1 → W p l e R s m args below meth c H' locs' cells slots Q (F0 m pc' ls' (v.map (e_rl ad')).toList)
  | .inr E => ∃ (Qc : Array Value → State → Outcome → State → Prop) (XC : String → State → State → Prop) (mc ms : Nat), Q = vx_MQ below Qc XC args s mc ms A ∧ cells ≤ mc ∧ slots ≤ ms ∧ ∀ (ad' : Nat → Nat) (t : State), e_ag n ad ad' → s.vm.Alike t.vm → va_P D vwCl (e_wd cA ad' h') t.heap → va_D A (e_wd cA ad' h') → va_F A s t → XC (e_en E) s t
def e_J (X : e_XT) (d : Nat) (K : e_KT) (pc : Nat) (ll : e_LL) (st : List Value) (h : e_Hp) (r : e_Rt) (h' : e_Hp) : Prop :=
  e_wh h → e_wfs (e_n h) ll st → (e_wh h' ∧ e_grow h h' ∧ e_okr (e_n h') r) ∧
  ∀ (p : Program) (l : Launch) (e : Env) (R : Room) (s : State) (m : MethodId) (args : Array Value) (below : List Frame) (meth : Method) (c : Code) (H : Heap) (locs : List Loc) (cells slots : Nat) (Q : State → Prop) (ad : Nat → Nat) (ls : Array Slot) (D : va_G) (cA : Nat → ClassId) (ex : Nat → Nat) (A : Nat → Prop),
    e_Cf K D cA X ex A p l s m args meth c → d + 8 ≤ R.frames → 64 * d + 200 ≤ R.locals → (∀ x, x < 22 → ad (e_xb + x) = ex x) → va_P D vwCl (e_wd cA ad h) H → va_D A (e_wd cA ad h) → va_S A s.heap H locs → e_LH ad ls K.2.2.2.1 ll →
    cells + (e_c h' - e_c h) ≤ R.cells → slots + (e_s h' - e_s h) ≤ R.slots → e_Fin K D cA A p l e R s m args below meth c Q ad (e_n h) r h' (cells + (e_c h' - e_c h)) (slots + (e_s h' - e_s h)) →
    W p l e R s m args below meth c H locs cells slots Q (F0 m pc ls (st.map (e_rl ad)))
theorem e_Fin.mono {K : e_KT} {D : va_G} {cA : Nat → ClassId} {A : Nat → Prop} {p : Program} {l : Launch} {e : Env} {R : Room} {s : State} {m : MethodId} {args : Array Value} {below : List Frame} {meth : Method} {c : Code} {Q : State → Prop} {ad ad1 : Nat → Nat} {n n1 : Nat} {r : e_Rt} {h' : e_Hp} {cells slots cells1 slots1 : Nat} (h : e_Fin K D cA A p l e R s m args below meth c Q ad n r h' cells slots) (hag : e_ag n ad ad1) (hn : n ≤ n1) (hc : cells = cells1) (hs : slots = slots1) : e_Fin K D cA A p l e R s m args below meth c Q ad1 n1 r h' cells1 slots1 := by
  subst hc hs
  cases r with
  | inl v => exact fun ad' H' locs' ls' pc' i a b g => h ad' H' locs' ls' pc' i a b (hag.trans g hn)
  | inr E =>
    obtain ⟨Qc, XC, mc, ms, h1, h2, h3, h4⟩ := h
    exact ⟨Qc, XC, mc, ms, h1, h2, h3, fun ad' t g => h4 ad' t (hag.trans g hn)⟩
section e_js
variable {X : e_XT} {d : Nat} {K : e_KT} {pc pc' len : Nat} {i : Instr} {ll ll' : e_LL} {st st' : List Value} {h h1 h' : e_Hp} {r : e_Rt}
theorem e_J.op (hop : e_op K.2.2.2.1 i len pc ll st = some (pc', ll', st')) (hdg : decode K.2.2.1 pc = .ok (i, len)) (k : e_J X d K pc' ll' st' h r h') : e_J X d K pc ll st h r h' := by
  intro hw w
  obtain ⟨a, b⟩ := k hw (e_op_wf hop w)
  refine ⟨a, fun p l e R s m args below meth c H locs cells slots Q ad ls D cA ex A C hf hl hex hP hD hS hL hc hs hfin => ?_⟩
  exact e_op_ok C.1.1 C.1.2.1 hop hdg hL (fun ls' hL' => b p l e R s m args below meth c H locs cells slots Q ad ls' D cA ex A C hf hl hex hP hD hS hL' hc hs hfin)
theorem e_J.hop (hop : e_hop X K.1 K.2.1 i len st h = some (st', h1)) (hdg : decode K.2.2.1 pc = .ok (i, len)) (k : e_J X d K (pc + len) ll st' h1 r h') : e_J X d K pc ll st h r h' := by
  intro hw w
  obtain ⟨g1, g2, g3⟩ := e_hop_wf hop hw w
  obtain ⟨⟨a1, a2, a3⟩, b⟩ := k g1 g2
  refine ⟨⟨a1, g3.trans a2, a3⟩, fun p l e R s m args below meth c H locs cells slots Q ad ls D cA ex A C hf hl hex hP hD hS hL hc hs hfin => ?_⟩
  have u1 := g3.2.1
  have u2 := g3.2.2
  have v1 := a2.2.1
  have v2 := a2.2.2
  refine e_hop_ok C.1 (fun x hx => hex x (by omega)) hop hdg hw w.1 hP hD hS ⟨by omega, by omega⟩ (fun ad' H' locs' hag hP' hD' hS' => ?_)
  exact b p l e R s m args below meth c H' locs' _ _ Q ad' ls D cA ex A C hf hl (fun x hx => (hag _ (Or.inr (Nat.le_add_right _ _))).trans (hex x hx)) hP' hD' hS' (hag.LH w hL) (by omega) (by omega) (hfin.mono hag g3.1 (by omega) (by omega))
theorem e_J.ret {v : Option Value} (hdg : decode K.2.2.1 pc = .ok (i, 1)) (hi : e_ri i v = true) : e_J X d K pc ll v.toList h (.inl v) h := by
  intro hw w
  refine ⟨⟨hw, e_grow.rfl', ?_⟩, fun p l e R s m args below meth c H locs cells slots Q ad ls D cA ex A C hf hl hex hP hD hS hL hc hs hfin => ?_⟩
  · cases v with
    | none => trivial
    | some v => exact w.1 v List.mem_cons_self
  · rw [Nat.sub_self, Nat.sub_self] at hfin
    have k := hfin ad H locs ls pc i hdg hi e_ag.rfl' hP hD hS hL.2.1
    cases v with
    | none => exact k
    | some v => exact k
theorem e_J.eqv {ll' : e_LL} {st' : List Value} (hl : ll = ll') (hs : st = st') (k : e_J X d K pc ll' st' h r h') : e_J X d K pc ll st h r h' := by
  subst hl hs; exact k
theorem e_tb0 : tableOf [] = [] := rfl
/-- 'throw new E(text)' -/
theorem e_J.throw {E ik is ic sp : Nat} {q : Nat × Nat × Nat × Nat × Nat × List Nat} {tx : String} (hq : q ∈ e_XP) (hE : q.1 = E) (hik : q.2.1 = ik) (hic : q.2.2.1 = ic) (hE6 : E < 6) (htx : (is, tx, sp) ∈ e_TX) (ho : K.1 = 15) (hh : K.2.2.2.2 = []) (hst : (st.map fun v => v.category).sum ≤ 8)
    (d0 : decode K.2.2.1 pc = .ok (.new ik, 3)) (d3 : decode K.2.2.1 (pc + 3) = .ok (.dup, 1)) (dd : (decode K.2.2.1 (pc + 4) = .ok (.ldc is, 2) ∧ decode K.2.2.1 (pc + 6) = .ok (.invokespecial ic, 3) ∧ decode K.2.2.1 (pc + 9) = .ok (.athrow, 1)) ∨ (decode K.2.2.1 (pc + 4) = .ok (.ldc_w is, 3) ∧ decode K.2.2.1 (pc + 7) = .ok (.invokespecial ic, 3) ∧ decode K.2.2.1 (pc + 10) = .ok (.athrow, 1))) :
    e_J X d K pc ll st h (.inr E) (e_add h 1 6) := by
  intro hw w
  have c1 : e_c (e_add h 1 6) - e_c h = 1 := Nat.add_sub_cancel_left _ _
  have c2 : e_s (e_add h 1 6) - e_s h = 6 := Nat.add_sub_cancel_left _ _
  refine ⟨⟨hw, ⟨Nat.le_refl _, Nat.le_add_right _ _, Nat.le_add_right _ _⟩, trivial⟩, fun p l e R s m args below meth c H locs cells slots Q ad ls D cA ex A C hf hl hex hP hD hS hL hc hs hfin => ?_⟩
  rw [c1] at hc hfin
  rw [c2] at hs hfin
  obtain ⟨⟨hexec, hb, -, hown, -, hts, -⟩, hSg, hml, hlk, htab, hstk⟩ := C
  obtain ⟨Qc, XC, mc, ms, rfl, hmc, hms, hx⟩ := hfin
  obtain ⟨⟨w1, w2⟩, w3⟩ := e_XP_at hq
  subst hE hik hic
  rw [ho] at hown
  have hown : s.vm.findClass "Rankhall" = some m.cls := hown
  have hnt := hSg.1.2.1
  obtain ⟨sa, hsa⟩ := hSg.1.2.2.2.2.2.2.2.1 _ htx
  have hcat : ((st.map (e_rl ad)).map fun v => v.category).sum ≤ 8 := by
    rw [List.map_map]
    rw [show (fun v => Value.category v) ∘ e_rl ad = fun v => v.category from funext fun v => e_rl_cat ad v]
    exact hst
  have hno : ∀ z : Nat, ∀ x ∈ c.exceptionTable.toList, covers x z = false := fun z x hx => by
    rw [htab, hh, e_tb0] at hx; cases hx
  have hn : e_xn.length = 2 := rfl
  have hX : ∀ t : State, s.vm.Alike t.vm → H.size ≤ t.heap.size → (∀ q : Nat, q < H.size → t.heap[q]? = H[q]?) → XC (e_en q.1) s t := fun t ha hz hk => hx ad t e_ag.rfl' ha (fun k q9 hk9 => (hP k q9 hk9).kept (hk _ (hP k q9 hk9).lt)) hD ⟨Nat.le_trans hS.1 hz, fun z h1 h2 => by rw [hk z (Nat.lt_of_lt_of_le h1 hS.1)]; exact hS.2.1 z h1 h2⟩
  rcases dd with ⟨d4, d6, d9⟩ | ⟨d4, d6, d9⟩
  · exact vx_throwS (names := e_xn) hexec hb hstk hown (e_en_fit _ hE6) e_xn_fit (hts _ w1) (hts _ w2) hsa (fun w hw => e_bef hts hnt (w3 w hw)) (fun w hw => by
      rcases List.mem_cons.mp hw with rfl | hw
      · exact e_tt_ot (Or.inl w1)
      rcases List.mem_cons.mp hw with rfl | hw
      · exact e_tt_ot (Or.inl w2)
      exact e_tt_ot (w3 w hw)) hSg.1.2.2.2.2.2.2.1.1 hSg.1.2.2.2.2.2.2.1.2 hS (by rw [hL.2.1, hml]) d0 d3 d4 d6 d9 (hno _) (by omega) (by omega) (by omega) (by omega) hlk hX hS.2.2 hmc hms
  · exact vx_throwSW (names := e_xn) hexec hb hstk hown (e_en_fit _ hE6) e_xn_fit (hts _ w1) (hts _ w2) hsa (fun w hw => e_bef hts hnt (w3 w hw)) (fun w hw => by
      rcases List.mem_cons.mp hw with rfl | hw
      · exact e_tt_ot (Or.inl w1)
      rcases List.mem_cons.mp hw with rfl | hw
      · exact e_tt_ot (Or.inl w2)
      exact e_tt_ot (w3 w hw)) hSg.1.2.2.2.2.2.2.1.1 hSg.1.2.2.2.2.2.2.1.2 hS (by rw [hL.2.1, hml]) d0 d3 d4 d6 d9 (hno _) (by omega) (by omega) (by omega) (by omega) hlk hX hS.2.2 hmc hms
end e_js
