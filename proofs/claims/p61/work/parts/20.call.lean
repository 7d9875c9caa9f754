/-! 20: calls of the table's methods -/
theorem e_Rw.ex {mi : Nat} {row : e_MT} {w : Cond} (h1 : e_M[mi]? = some row) (h2 : e_tb row.2.2.1 = some w) : ∃ y bytes nL ret hh, e_cw (some w) = some (y, bytes, nL, ret, hh) ∧ e_Rw row w bytes nL ret hh := by
  have h := e_M_ok row (List.mem_of_getElem? h1)
  unfold e_Mck at h
  simp only [Bool.and_eq_true] at h
  have h := h.1
  rw [h2] at h
  split at h
  · rename_i y b m r hh e
    exact ⟨_, _, _, _, _, e, e_Rw.of h1 h2 e⟩
  · cases h
def e_Xck (r : e_MT) : Bool := (match e_tb r.2.2.1 with
  | some (.codeWith _ _ _ _ _) => decide (r.1.2 = 21) && r.2.1.2
  | _ => true) && (match e_cw (e_tb r.2.2.1) with
  | some (_, _, _, ret, _) => decide (r.1.1.name = "<init>" → ret = none)
  | none => true)
theorem e_Xck_ok : e_M.all e_Xck = true := by decide +kernel
theorem e_no_with {mi : Nat} {row : e_MT} {y : MethodName} {bytes : ByteArray} {nL : Nat} {ret : Option FieldType} {hh : List (Nat × Nat × Nat × Nat)} (h1 : e_M[mi]? = some row) (h2 : e_tb row.2.2.1 = some (.codeWith y bytes nL ret hh)) : row.1.2 = 21 ∧ row.2.1.2 = true := by
  have h := List.all_eq_true.mp e_Xck_ok row (List.mem_of_getElem? h1)
  unfold e_Xck at h
  rw [h2, Bool.and_eq_true, Bool.and_eq_true] at h
  exact ⟨of_decide_eq_true h.1.1, h.1.2⟩
theorem e_init_none {mi : Nat} {row : e_MT} {w : Cond} {y : MethodName} {bytes : ByteArray} {nL : Nat} {ret : Option FieldType} {hh : List (Nat × Nat × Nat × Nat)} (h1 : e_M[mi]? = some row) (h2 : e_tb row.2.2.1 = some w) (h3 : e_cw (some w) = some (y, bytes, nL, ret, hh)) (hn : row.1.1.name = "<init>") : ret = none := by
  have h := List.all_eq_true.mp e_Xck_ok row (List.mem_of_getElem? h1)
  unfold e_Xck at h
  rw [h2, h3, Bool.and_eq_true] at h
  exact of_decide_eq_true h.2 hn
theorem e_cl_ok {own ix : Nat} {r : Nat × Nat × Nat × Nat} (hown : own < 33) (h : e_cl2 own ix = some r) : r.1 = ix ∧ e_CLck own r = true := by
  obtain ⟨hm, h1⟩ := e_find h
  refine ⟨h1, ?_⟩
  by_cases c : own < 15
  · exact List.all_eq_true.mp (List.all_eq_true.mp e_CL_ok1 own (List.mem_range.mpr c)) r hm
  · have h2 := List.all_eq_true.mp e_CL_ok2 (own - 15) (List.mem_range.mpr (by omega))
    rw [Nat.sub_add_cancel (Nat.le_of_not_lt c)] at h2
    exact List.all_eq_true.mp h2 r hm
theorem e_cl_link {own ix mi pl ho : Nat} {row : e_MT} (hown : own < 33) (h : e_cl2 own ix = some (ix, mi, pl, ho)) (hmi : mi < 1000) (h1 : e_M[mi]? = some row) : (ho = 0 ∧ Cond.methodLink (e_cn own) ix row.1.1 ∈ e_tt) ∨ (ho ≠ 0 ∧ Cond.methodLinkNest (e_cn own) ix row.1.1 (e_ho ho) ∈ e_nt) := by
  obtain ⟨-, h2⟩ := e_cl_ok hown h
  have hy : e_y mi = row.1.1 := by unfold e_y; rw [h1]
  have a1 : mi ≠ 1000 := by omega
  have a2 : mi ≠ 1001 := by omega
  simp only [e_CLck, e_CLw, e_wg, if_neg a1, if_neg a2] at h2
  by_cases c : ho = 0
  · rw [if_pos c, if_pos c, hy] at h2; exact Or.inl ⟨c, e_w_in h2⟩
  · rw [if_neg c, if_neg c, hy] at h2; exact Or.inr ⟨c, e_wn_in h2⟩
theorem e_va_vx {p : Program} {l : Launch} {e : Env} {R : Room} {s : State} {m : MethodId} {args : Array Value} {below : List Frame} {meth : Method} {c : Code} {H : Heap} {locs : List Loc} {cells slots mc ms : Nat} {g : JFrame} {rest : List Value} {Qa : State → Outcome → State → Prop} {free : Addr → Prop} {XC : String → State → State → Prop}
    (h : va_Run p l e R s m args below meth c H locs cells slots mc ms g rest Qa free) : vx_Run p l e R s m args below meth c H locs cells slots mc ms g rest Qa XC free := fun T hT X => Or.inl (h T hT X)
theorem e_vx_met {l : Launch} {y : MethodName} {ws : List Cond} {rm : Room} {Pc : Array Value → State → Prop} {D : va_G} {cA : Nat → ClassId} {A : Nat → Prop} {ad : Nat → Nat} {n : Nat} {v : Option Value} {h' : e_Hp} {mc ms : Nat} {free : Addr → Prop}
    (h : vx_Met l y ws rm Pc (e_Qc D cA A ad n (.inl v) h') (e_XC D cA A ad n (.inl v) h') mc ms free) : Met l y ws rm Pc (e_Qc D cA A ad n (.inl v) h') mc ms free := by
  intro p e ha hc hk s m args below hf happ hP hK
  obtain ⟨k, o, h1, h2, h3, h4⟩ := h p e ha hc hk s m args below hf happ hP hK
  refine ⟨k, o, h1, h2, h3, ?_⟩
  rcases h4 with h4 | ⟨q, -, E, ce, L, hx, -⟩
  · exact h4
  · exact absurd hx (fun z => z)
section e_cs
variable {X : e_XT} {d : Nat} {K : e_KT} {pc ix mi pl ho : Nat} {i : Instr} {ll : e_LL} {st rest As : List Value} {h h1 h' : e_Hp} {r r1 : e_Rt} {v : Option Value} {row : e_MT} {b : Nat}
variable {p : Program} {l : Launch} {e : Env} {R : Room} {s : State} {m : MethodId} {args : Array Value} {below : List Frame} {meth : Method} {c : Code} {H : Heap} {locs : List Loc} {cells slots : Nat} {Q : State → Prop} {ad : Nat → Nat} {ls : Array Slot} {D : va_G} {cA : Nat → ClassId} {ex : Nat → Nat} {A : Nat → Prop}
/-- the three forms of a call -/
def e_rcv (h : e_Hp) (b : Nat) (row : e_MT) : Prop := (b < e_n h ∧ e_kd h b = row.1.2 ∧ row.1.2 < 21) ∨ (e_xb + 10 ≤ b ∧ b < e_xb + 15 ∧ row.1.1.cls = "java/lang/String")
def e_cf (K : e_KT) (i : Instr) (ix : Nat) (row : e_MT) (As : List Value) (b : Nat) (args st rest : List Value) (h : e_Hp) : Prop :=
  (i = .invokestatic ix ∧ row.2.1.2 = true ∧ args = As ∧ st = As.reverse ++ rest) ∨
  (i = .invokevirtual ix ∧ row.2.1.2 = false ∧ row.1.1.name ≠ "<init>" ∧ args = .ref b :: As ∧ st = As.reverse ++ .ref b :: rest ∧ e_rcv h b row) ∨
  (i = .invokespecial ix ∧ row.2.1.2 = false ∧ row.1.1.name = "<init>" ∧ args = .ref b :: As ∧ st = As.reverse ++ .ref b :: rest)
theorem e_cat_sum (ad : Nat → Nat) (l : List Value) : ((l.map (e_rl ad)).map fun v => v.category).sum = (l.map fun v => v.category).sum := by
  rw [List.map_map]
  rw [show (fun v => Value.category v) ∘ e_rl ad = fun v => v.category from funext fun v => e_rl_cat ad v]
theorem e_Pc_blind {a : List Value} : FrameBlind (e_Pc X D cA ex A ad a h) := fun _ _ _ _ hp => ⟨hp.1, hp.2.1, hp.2.2.1, hp.2.2.2.calling⟩
theorem e_good_tt {w : Cond} (h : w ∈ e_tt) : GoodIn e_tt (w :: e_tt) := goodIn_sub (fun w' hw => (List.mem_cons.mp hw).elim (fun e => e ▸ h) id) (List.all_eq_true.mpr fun w' hw => (List.mem_cons.mp hw).elim (fun e => e ▸ (List.mem_filter.mp h).2) (fun hw => (List.mem_filter.mp hw).2))
theorem e_recv (hK : va_K D vwCl (e_tys cA) s) (hP : va_P D vwCl (e_wd cA ad h) H) (hb : b < e_n h) {ci : Nat} (hk : e_kd h b = ci) (h21 : ci < 21) : ∃ cell : Cell, H[ad b]? = some cell ∧ cell.vm.isStatics = false ∧ s.vm.findClass (e_cn ci) = some cell.cls :=
  va_recv (q := (e_cn ci, e_cT ci, e_cF ci)) hK hP (e_vw _ h21) ((e_wd_get hb).trans (congrArg some (e_ent_o hk h21)))
/-- a call at the machine -/
theorem e_run {a9 : List Value} (C : e_Cf K D cA X ex A p l s m args meth c) (hf : d + 9 ≤ R.frames) (hlo : 64 * d + 264 ≤ R.locals) (hex : ∀ x, x < 22 → ad (e_xb + x) = ex x) (hP : va_P D vwCl (e_wd cA ad h) H) (hD : va_D A (e_wd cA ad h)) (hS : va_S A s.heap H locs) (hL : e_LH ad ls K.2.2.2.1 ll)
    (hwh : e_wh h) (hwf : e_wfs (e_n h) ll st) (hM : e_Mt X d mi a9 h r1 h1) (hrow : e_M[mi]? = some row) (hcl : e_cl2 K.1 ix = some (ix, mi, pl, ho)) (hmi : mi < 1000) (hho : ho ≠ 0 → (∃ v, r1 = .inl v) ∧ row.1.2 ≠ 21) (hri : row.1.1.name = "<init>" → ∃ v, r1 = .inl v) (hcf : e_cf K i ix row As b a9 st rest h) (hn : As.length = row.2.1.1) (hcat : (rest.map fun v => v.category).sum ≤ 8) (hdg : decode K.2.2.1 pc = .ok (i, 3))
    (hc : cells + (e_c h1 - e_c h) ≤ R.cells) (hs : slots + (e_s h1 - e_s h) ≤ R.slots) :
    ∃ a : Array Value, vx_Run p l e R s m args below meth c H locs cells slots (e_c h1 - e_c h) (e_s h1 - e_s h) (F0 m pc ls (st.map (e_rl ad))) (rest.map (e_rl ad)) (e_Qc D cA A ad (e_n h) r1 h1 a) (e_XC D cA A ad (e_n h) r1 h1) A := by
  obtain ⟨⟨hexec, hb, ho31, hown, hini, hts, hSf⟩, hSg, hml, hlk, htab, hstk⟩ := C
  obtain ⟨row', w, hrow', hw, hM⟩ := hM
  cases Option.some.inj (hrow.symm.trans hrow')
  obtain ⟨y9, bytes, nL, ret, hh, hcw9, hR⟩ := e_Rw.ex hrow hw
  have hok : ∀ v ∈ a9, e_okv (e_n h) v := by
    intro v hv
    rcases hcf with ⟨-, -, rfl, rfl⟩ | ⟨-, -, -, rfl, rfl, -⟩ | ⟨-, -, -, rfl, rfl⟩
    · exact hwf.1 v (List.mem_append_left _ (List.mem_reverse.mpr hv))
    · exact hwf.1 v ((List.mem_cons.mp hv).elim (fun e => e ▸ List.mem_append_right _ List.mem_cons_self) (fun hv => List.mem_append_left _ (List.mem_reverse.mpr hv)))
    · exact hwf.1 v ((List.mem_cons.mp hv).elim (fun e => e ▸ List.mem_append_right _ List.mem_cons_self) (fun hv => List.mem_append_left _ (List.mem_reverse.mpr hv)))
  have hMx := (hM hwh hok).2 l D cA ex A ad hstk hex
  obtain ⟨hw2, hwt, hn45, hsi, hit, hsel, hcls, hmh, hpar, hpl, h31⟩ := hR
  have hlink := e_cl_link ho31 hcl hmi hrow
  have hfix : CallFix p m c K.2.2.1 K.2.2.2.1 s args e_tt (e_cn K.1) := ⟨hexec, hb, hml, hown, hts⟩
  have hG := e_good_tt hwt
  have hpay : ∀ w' ∈ w :: e_tt, ∀ (a' : Array Value) (U : State), s.WarmedH U.vm → w'.before a' U = true := pay_in hts hG
  have hpars : ∀ sig, parseMethodDescriptor row.1.1.desc = some sig → row.2.1.1 = sig.parameters.length := fun sig hsg => by rw [hsg] at hpar; exact (Option.some.inj hpar).symm
  have hpre : ∀ U : State, U.heap = H → s.WarmedH U.vm → e_Pc X D cA ex A ad a9 h (a9.map (e_rl ad)).toArray U := fun U hU hW => ⟨rfl, by rw [hU]; exact hP, hD, hSg.warm hW (by rw [hU]; exact hS)⟩
  have hrm : (e_rmm d h h1).frames + 1 ≤ R.frames ∧ 8 + (nL + 11) + (e_rmm d h h1).locals ≤ R.locals := ⟨by show d + 8 + 1 ≤ _; omega, by show 8 + (nL + 11) + (64 * d + 200) ≤ _; omega⟩
  have hcat' : 2 * (F0 m pc ls (st.map (e_rl ad))).monitorRoom + ((rest.map (e_rl ad)).map fun v => v.category).sum ≤ 8 := by
    rw [e_cat_sum]; show 2 * 0 + _ ≤ _; omega
  have hsz : (F0 m pc ls (st.map (e_rl ad))).locals.size = K.2.2.2.1 := hL.2.1
  have hbef : ∀ w' ∈ e_tt, w'.before args s = true := hts
  refine ⟨(a9.map (e_rl ad)).toArray, ?_⟩
  rcases hcf with ⟨rfl, hst, rfl, rfl⟩ | ⟨rfl, hst, hnm, rfl, rfl, hbr⟩ | ⟨rfl, hst, hnm, rfl, rfl⟩
  · rw [if_pos hst] at hsi
    have hstack : (F0 m pc ls ((a9.reverse ++ rest).map (e_rl ad))).stack = (a9.map (e_rl ad)).reverse ++ rest.map (e_rl ad) := by show (a9.reverse ++ rest).map (e_rl ad) = _; rw [List.map_append, List.map_reverse]
    have hlen : (a9.map (e_rl ad)).length = row.2.1.1 := by rw [List.length_map]; exact hn
    rcases hlink with ⟨-, hlink⟩ | ⟨hne, hlink⟩
    · rcases hw2 with ⟨rfl, -⟩ | rfl
      · exact vx_runS (bytes := bytes) (maxL := nL) (ret := ret) (index := ix) (own := e_cn K.1) hfix hMx ⟨⟨rfl, rfl, hrm.1, hrm.2, hpay, List.mem_cons_self, hbef _ hwt, hbef _ hit, hmh, hpars, hbef _ hlink⟩, hbef _ hsi⟩ ⟨e_Pc_blind, hpre⟩ rfl hlen hsz hstack hcat' hdg ⟨hc, hs⟩
      · exact vx_runSX (bytes := bytes) (maxL := nL) (ret := ret) (hh := hh) (index := ix) (own := e_cn K.1) hfix hMx ⟨⟨rfl, rfl, hrm.1, hrm.2, hpay, List.mem_cons_self⟩, hbef _ hwt, hbef _ hit, hmh, hpars, hbef _ hlink, hbef _ hsi⟩ ⟨e_Pc_blind, hpre⟩ rfl hlen hsz hstack hcat' hdg ⟨hc, hs⟩
    · obtain ⟨⟨v1, rfl⟩, h21⟩ := hho hne
      rcases hw2 with ⟨rfl, -⟩ | rfl
      · exact e_va_vx (va_runSN (bytes := bytes) (maxL := nL) (ret := ret) (index := ix) (own := e_cn K.1) (host := e_ho ho) hfix (e_vx_met hMx) ⟨⟨⟨rfl, rfl, hrm.1, hrm.2, hpay, List.mem_cons_self⟩, hbef _ hwt, hbef _ hit, hmh, hpars, (hSg.1.2.1 _ hlink).use (e_nt_on hlink)⟩, hbef _ hsi, trivial⟩ ⟨e_Pc_blind, hpre⟩ rfl hlen hsz hstack hcat' hdg ⟨hc, hs⟩)
      · exact absurd (e_no_with hrow hw).1 h21
  · rw [if_neg (by rw [hst]; decide)] at hsi
    have hsel := (hsel.resolve_left (by rw [hst]; decide)).resolve_left hnm
    have hstack : (F0 m pc ls ((As.reverse ++ .ref b :: rest).map (e_rl ad))).stack = (As.map (e_rl ad)).reverse ++ .ref (ad b) :: rest.map (e_rl ad) := by show (As.reverse ++ .ref b :: rest).map (e_rl ad) = _; rw [List.map_append, List.map_reverse]; rfl
    have hlen : (As.map (e_rl ad)).length = row.2.1.1 := by rw [List.length_map]; exact hn
    have hrv : ∃ cell : Cell, H[ad b]? = some cell ∧ cell.vm.isStatics = false ∧ s.vm.findClass row.1.1.cls = some cell.cls := by
      rcases hbr with ⟨hbn, hbk, hb21⟩ | ⟨hb1, hb2, hb3⟩
      · have hrv := e_recv hSf.1 hP hbn hbk hb21
        rw [← hcls] at hrv
        exact hrv
      · have h9 := hex (b - e_xb) (by omega)
        rw [Nat.add_sub_cancel' (by omega : e_xb ≤ b)] at h9
        rw [h9, hb3]
        have h8 := vk_recv hSg.2.2.2.2.1 (i := b - e_xb - 10) (by omega) hS
        rw [show 10 + (b - e_xb - 10) = b - e_xb by omega] at h8
        exact h8
    rcases hlink with ⟨-, hlink⟩ | ⟨hne, hlink⟩
    · rcases hw2 with ⟨rfl, -⟩ | rfl
      · exact vx_runV (C := row.1.1.cls) (bytes := bytes) (maxL := nL) (ret := ret) (index := ix) (own := e_cn K.1) hfix hMx ⟨⟨rfl, rfl, hrm.1, hrm.2, hpay, List.mem_cons_self, hbef _ hwt, hbef _ hit, hmh, hpars, hbef _ hlink⟩, hbef _ hsi, hbef _ hsel⟩ ⟨e_Pc_blind, hrv, hpre⟩ rfl hlen hsz hstack hcat' hdg ⟨hc, hs⟩
      · exact vx_runVX (C := row.1.1.cls) (bytes := bytes) (maxL := nL) (ret := ret) (hh := hh) (index := ix) (own := e_cn K.1) hfix hMx ⟨⟨rfl, rfl, hrm.1, hrm.2, hpay, List.mem_cons_self⟩, hbef _ hwt, hbef _ hit, hmh, hpars, hbef _ hlink, hbef _ hsi, hbef _ hsel⟩ ⟨e_Pc_blind, hrv, hpre⟩ rfl hlen hsz hstack hcat' hdg ⟨hc, hs⟩
    · obtain ⟨⟨v1, rfl⟩, h21⟩ := hho hne
      rcases hw2 with ⟨rfl, -⟩ | rfl
      · exact e_va_vx (va_runVN (C := row.1.1.cls) (bytes := bytes) (maxL := nL) (ret := ret) (index := ix) (own := e_cn K.1) (host := e_ho ho) hfix (e_vx_met hMx) ⟨⟨⟨rfl, rfl, hrm.1, hrm.2, hpay, List.mem_cons_self⟩, hbef _ hwt, hbef _ hit, hmh, hpars, (hSg.1.2.1 _ hlink).use (e_nt_on hlink)⟩, hbef _ hsi, hbef _ hsel⟩ ⟨e_Pc_blind, hrv, hpre⟩ rfl hlen hsz hstack hcat' hdg ⟨hc, hs⟩)
      · exact absurd (e_no_with hrow hw).1 h21
  · rw [if_neg (by rw [hst]; decide)] at hsi
    have hstack : (F0 m pc ls ((As.reverse ++ .ref b :: rest).map (e_rl ad))).stack = (As.map (e_rl ad)).reverse ++ .ref (ad b) :: rest.map (e_rl ad) := by show (As.reverse ++ .ref b :: rest).map (e_rl ad) = _; rw [List.map_append, List.map_reverse]; rfl
    have hlen : (As.map (e_rl ad)).length = row.2.1.1 := by rw [List.length_map]; exact hn
    obtain ⟨v1, rfl⟩ := hri hnm
    cases e_init_none hrow hw hcw9 hnm
    rcases hw2 with ⟨rfl, -⟩ | rfl
    · rcases hlink with ⟨-, hlink⟩ | ⟨hne, hlink⟩
      · exact e_va_vx (va_runI (bytes := bytes) (maxL := nL) (index := ix) (own := e_cn K.1) hfix (e_vx_met hMx) ⟨⟨rfl, rfl, hrm.1, hrm.2, hpay, List.mem_cons_self, hbef _ hwt, hbef _ hit, hmh, hpars, hbef _ hlink⟩, hnm, hbef _ hsi⟩ ⟨e_Pc_blind, hpre⟩ rfl hlen hsz hstack hcat' hdg ⟨hc, hs⟩)
      · exact e_va_vx (va_runIN (bytes := bytes) (maxL := nL) (index := ix) (own := e_cn K.1) (host := e_ho ho) hfix (e_vx_met hMx) ⟨⟨⟨rfl, rfl, hrm.1, hrm.2, hpay, List.mem_cons_self⟩, hbef _ hwt, hbef _ hit, hmh, hpars, (hSg.1.2.1 _ hlink).use (e_nt_on hlink)⟩, hnm, hbef _ hsi⟩ ⟨e_Pc_blind, hpre⟩ rfl hlen hsz hstack hcat' hdg ⟨hc, hs⟩)
    · exact absurd (e_no_with hrow hw).2 (by rw [hst]; decide)
end e_cs
