/-! 9999999999999997r2: a call with more on the stack (its method needs few locals) -/
section z_r1
variable {p : Program} {l : Launch} {e : Env} {R : Room} {s : State} {m : MethodId} {args : Array Value} {below : List Frame} {meth : Method} {c : Code} {H : Heap} {locs : List Loc} {cells slots : Nat}
variable {y : MethodName} {bytes cc : ByteArray} {maxL nL mc ms n index : Nat} {ret : Option FieldType} {ws : List Cond} {rm : Room} {Pc : Array Value → State → Prop} {Qc : Array Value → State → Outcome → State → Prop} {XC : String → State → State → Prop} {free : Addr → Prop} {Ts : List Cond} {own C : String} {b : Addr} {As rest : List Value} {g : JFrame}
theorem vx_runS9 (S : CallFix p m c cc nL s args Ts own) (hM : vx_Met l y ws rm Pc Qc XC mc ms free) (cw : CallB R s args own index y bytes maxL ret ws rm mc ms n ∧ (Cond.static y).before args s = true) (h16 : 16 + (maxL + 11) + rm.locals ≤ R.locals) (hp : PreS s H Pc As)
    (hg : g.method = m) (hn : As.length = n) (hsize : g.locals.size = nL) (hstack : g.stack = As.reverse ++ rest) (hW : 2 * g.monitorRoom + (rest.map fun v => v.category).sum ≤ 16) (hdg : decode cc g.pc = .ok (.invokestatic index, 3)) (hf : cells + mc ≤ R.cells ∧ slots + ms ≤ R.slots) :
    vx_Run p l e R s m args below meth c H locs cells slots mc ms g rest (Qc As.toArray) XC free := by
  have hK : vx_Back l R p e below s args y 3 16 (PreOf R mc ms Pc) (PostOf Qc mc ms free) (vx_Post XC mc ms free) := by
    obtain ⟨⟨hrc, hrs, hfr, -, hws, hcw, -, hini, -⟩, -⟩ := cw
    exact vx_back (bytes := bytes) (maxL := maxL) (ret := ret) hM hp.1 hrc hrs hfr h16 hws hcw (fun a' U hW => word_at hW (Or.inl (by first | rfl | simp [Cond.onTables, Cond.keeps, Cond.steady])) hini)
  obtain ⟨⟨-, -, -, -, -, -, hcode, hini, hy, hlen, hl⟩, hstt⟩ := cw
  obtain ⟨hx, hb, hml, ho, -⟩ := S
  intro T hT X
  rcases vx_callS X hx (bytes := bytes) (maxL := maxL) (ret := ret) ho hl hstt hini hcode hy hK hg (hsize.trans hml.symm) (argsL := As) (rest := rest) (fun sig h => hn.trans (hlen sig h)) hstack hW (by rw [hb]; exact hdg)
    (fun vm₁ hW₁ => ⟨hf.1, hf.2, hp.2 (T.setVm vm₁) hT hW₁⟩) with ⟨v, vm₁, ⟨U', l2, c2, s2⟩, hW₁, X', ⟨g', mk, t, L, e1, e2, hq, h1, hL, h2, h3⟩, st⟩ | ⟨q, vm₁, ⟨U', l2, c2, s2⟩, hW₁, X', ⟨g', mk, t, L, E, ce, e1, e2, hq, hce, hcv, hcl, h1, hL, h2, h3⟩, st⟩
  · dsimp only [Pt.U, Pt.locs, Pt.cells, Pt.slots] at X' e1 e2 h1 h2 h3 st
    subst h1; subst h2; subst h3
    exact Or.inl ⟨v, (T.setVm vm₁).calling g' mk As.toArray, t, U', L, hT, X', hL, e1, e2, hq, st⟩
  · dsimp only [Pt.U, Pt.locs, Pt.cells, Pt.slots] at X' e1 e2 h1 h2 h3 st hcl
    subst h1; subst h2; subst h3
    exact Or.inr ⟨q, (T.setVm vm₁).calling g' mk As.toArray, t, U', L, E, ce, hT, X', hL, e1, e2, hq, hce, hcv, vx_cls hW₁ hcl, st⟩
end z_r1
section z_r2
variable {X : e_XT} {d : Nat} {K : e_KT} {pc ix mi pl ho : Nat} {i : Instr} {ll : e_LL} {st rest As : List Value} {h h1 h' : e_Hp} {r r1 : e_Rt} {v : Option Value} {row : e_MT} {b : Nat}
variable {p : Program} {l : Launch} {e : Env} {R : Room} {s : State} {m : MethodId} {args : Array Value} {below : List Frame} {meth : Method} {c : Code} {H : Heap} {locs : List Loc} {cells slots : Nat} {Q : State → Prop} {ad : Nat → Nat} {ls : Array Slot} {D : va_G} {cA : Nat → ClassId} {ex : Nat → Nat} {A : Nat → Prop}
theorem e_run9 {y0 : MethodName} {by0 : ByteArray} {nL0 : Nat} {rt0 : Option FieldType} {a9 : List Value} (C : e_Cf K D cA X ex A p l s m args meth c) (hf : d + 9 ≤ R.frames) (hlo : 64 * d + 264 ≤ R.locals) (hex : ∀ x, x < 22 → ad (e_xb + x) = ex x) (hP : va_P D vwCl (e_wd cA ad h) H) (hD : va_D A (e_wd cA ad h)) (hS : va_S A s.heap H locs) (hL : e_LH ad ls K.2.2.2.1 ll)
    (hwh : e_wh h) (hwf : e_wfs (e_n h) ll st) (hM : e_Mt X d mi a9 h r1 h1) (hrow : e_M[mi]? = some row) (hcl : e_cl2 K.1 ix = some (ix, mi, pl, 0)) (hst : row.2.1.2 = true) (hw0 : e_tb row.2.2.1 = some (Cond.code y0 by0 nL0 rt0)) (hn0 : nL0 ≤ 37) (hmi : mi < 1000) (hri : row.1.1.name = "<init>" → ∃ v, r1 = .inl v) (hi : i = .invokestatic ix) (ha9 : a9 = As) (hst9 : st = As.reverse ++ rest) (hn : As.length = row.2.1.1) (hcat : (rest.map fun v => v.category).sum ≤ 16) (hdg : decode K.2.2.1 pc = .ok (i, 3))
    (hc : cells + (e_c h1 - e_c h) ≤ R.cells) (hs : slots + (e_s h1 - e_s h) ≤ R.slots) :
    ∃ a : Array Value, vx_Run p l e R s m args below meth c H locs cells slots (e_c h1 - e_c h) (e_s h1 - e_s h) (F0 m pc ls (st.map (e_rl ad))) (rest.map (e_rl ad)) (e_Qc D cA A ad (e_n h) r1 h1 a) (e_XC D cA A ad (e_n h) r1 h1) A := by
  obtain ⟨⟨hexec, hb, ho31, hown, hini, hts, hSf⟩, hSg, hml, hlk, htab, hstk⟩ := C
  obtain ⟨row', w, hrow', hw, hM⟩ := hM
  cases Option.some.inj (hrow.symm.trans hrow')
  obtain ⟨y9, bytes, nL, ret, hh, hcw9, hR⟩ := e_Rw.ex hrow hw
  have hok : ∀ v ∈ a9, e_okv (e_n h) v := by
    intro v hv
    rw [ha9] at hv
    refine hwf.1 v ?_
    rw [hst9]
    exact List.mem_append_left _ (List.mem_reverse.mpr hv)
  have hMx := (hM hwh hok).2 l D cA ex A ad hstk hex
  obtain ⟨hw2, hwt, hn45, hsi, hit, hsel, hcls, hmh, hpar, hpl, h31⟩ := hR
  have hlink := e_cl_link ho31 hcl hmi hrow
  have hfix : CallFix p m c K.2.2.1 K.2.2.2.1 s args e_tt (e_cn K.1) := ⟨hexec, hb, hml, hown, hts⟩
  have hG := e_good_tt hwt
  have hpay : ∀ w' ∈ w :: e_tt, ∀ (a' : Array Value) (U : State), s.WarmedH U.vm → w'.before a' U = true := pay_in hts hG
  have hpars : ∀ sig, parseMethodDescriptor row.1.1.desc = some sig → row.2.1.1 = sig.parameters.length := fun sig hsg => by rw [hsg] at hpar; exact (Option.some.inj hpar).symm
  have hpre : ∀ U : State, U.heap = H → s.WarmedH U.vm → e_Pc X D cA ex A ad a9 h (a9.map (e_rl ad)).toArray U := fun U hU hW => ⟨rfl, by rw [hU]; exact hP, hD, hSg.warm hW (by rw [hU]; exact hS)⟩
  have hrm : (e_rmm d h h1).frames + 1 ≤ R.frames ∧ 8 + (nL + 11) + (e_rmm d h h1).locals ≤ R.locals := ⟨by show d + 8 + 1 ≤ _; omega, by show 8 + (nL + 11) + (64 * d + 200) ≤ _; omega⟩
  have hcat' : 2 * (F0 m pc ls (st.map (e_rl ad))).monitorRoom + ((rest.map (e_rl ad)).map fun v => v.category).sum ≤ 16 := by
    rw [e_cat_sum]; show 2 * 0 + _ ≤ _; omega
  have hsz : (F0 m pc ls (st.map (e_rl ad))).locals.size = K.2.2.2.1 := hL.2.1
  have hbef : ∀ w' ∈ e_tt, w'.before args s = true := hts
  refine ⟨(a9.map (e_rl ad)).toArray, ?_⟩
  rw [if_pos hst] at hsi
  subst hi
  subst ha9
  subst hst9
  have hstack : (F0 m pc ls ((a9.reverse ++ rest).map (e_rl ad))).stack = (a9.map (e_rl ad)).reverse ++ rest.map (e_rl ad) := by show (a9.reverse ++ rest).map (e_rl ad) = _; rw [List.map_append, List.map_reverse]
  have hlen : (a9.map (e_rl ad)).length = row.2.1.1 := by rw [List.length_map]; exact hn
  have ew : w = Cond.code y0 by0 nL0 rt0 := Option.some.inj (hw.symm.trans hw0)
  rcases hlink with ⟨-, hlink⟩ | ⟨hne, hlink⟩
  · rcases hw2 with ⟨rfl, -⟩ | rfl
    · injection ew with q1 q2 q3 q4
      exact vx_runS9 (bytes := bytes) (maxL := nL) (ret := ret) (index := ix) (own := e_cn K.1) hfix hMx ⟨⟨rfl, rfl, hrm.1, hrm.2, hpay, List.mem_cons_self, hbef _ hwt, hbef _ hit, hmh, hpars, hbef _ hlink⟩, hbef _ hsi⟩ (by show 16 + (nL + 11) + (64 * d + 200) ≤ _; omega) ⟨e_Pc_blind, hpre⟩ rfl hlen hsz hstack hcat' hdg ⟨hc, hs⟩
    · exact absurd ew (by intro z; cases z)
  · exact absurd rfl hne
end z_r2
section z_r3
variable {X : e_XT} {d : Nat} {K : e_KT} {pc ix mi pl ho E : Nat} {i : Instr} {ll : e_LL} {st rest As a9 : List Value} {h h1 h' : e_Hp} {r : e_Rt} {v : Option Value} {row : e_MT} {b : Nat}
theorem e_J.call9 {y0 : MethodName} {by0 : ByteArray} {nL0 : Nat} {rt0 : Option FieldType} (hst9 : row.2.1.2 = true) (hni9 : row.1.1.name ≠ "<init>") (hw0 : e_tb row.2.2.1 = some (Cond.code y0 by0 nL0 rt0)) (hn0 : nL0 ≤ 37) (hM : e_Mt X d mi a9 h (.inl v) h1) (hrow : e_M[mi]? = some row) (hcl : e_cl2 K.1 ix = some (ix, mi, pl, 0)) (hmi : mi < 1000) (hi : i = .invokestatic ix) (hst8 : st = a9.reverse ++ rest) (hn : a9.length = row.2.1.1) (hcat : (rest.map fun v => v.category).sum ≤ 16) (hdg : decode K.2.2.1 pc = .ok (i, 3))
    (k : e_J X (d + 1) K (pc + 3) ll (v.toList ++ rest) h1 r h') : e_J X (d + 1) K pc ll st h r h' := by
  intro hw w
  obtain ⟨hok, wr⟩ := e_cf.ok (K := K) (Or.inl ⟨hi, hst9, rfl, hst8⟩ : e_cf K i ix row a9 0 a9 st rest h) w
  obtain ⟨⟨g1, g2, g3⟩, -⟩ := hM.choose_spec.choose_spec.2.2 hw hok
  have wk : e_wfs (e_n h1) ll (v.toList ++ rest) := by
    have wr1 := wr.mono g2.1
    cases v with
    | none => exact wr1
    | some v => exact wr1.cons g3
  obtain ⟨⟨a1, a2, a3⟩, kk⟩ := k g1 wk
  have u1 := g2.2.1
  have u2 := g2.2.2
  have v1 := a2.2.1
  have v2 := a2.2.2
  refine ⟨⟨a1, g2.trans a2, a3⟩, fun p l e R s m args below meth c H locs cells slots Q ad ls D cA ex A C hf hl hex hP hD hS hL hc hs hfin => ?_⟩
  obtain ⟨a, hr⟩ := e_run9 C (e := e) (below := below) (d := d) (by omega) (by omega) hex hP hD hS hL hw w hM hrow hcl hst9 hw0 hn0 hmi (fun _ => ⟨_, rfl⟩) hi rfl hst8 hn hcat hdg (cells := cells) (slots := slots) (by omega) (by omega)
  intro T hT Y
  rcases hr T hT Y with ⟨v', st₀, t, T', L, h0, Y', hLf, e1, e2, hQ, st⟩ | ⟨q, st₀, t, T', L, E, ce, h0, Y', hLf, e1, e2, hx, -⟩
  · obtain ⟨ad1, hv, hag, hP1, hD1, hF⟩ := hQ
    cases hv
    obtain ⟨k1, k2, k3⟩ := vx_keep h0 e1 hS (fun q _ h => h) (fun q h => h) hLf hF
    have K2 := kk p l e R s m args below meth c T'.heap (locs ++ L) (cells + (e_c h1 - e_c h)) (slots + (e_s h1 - e_s h)) Q ad1 ls D cA ex A C hf hl (fun x hx => (hag _ (Or.inr (Nat.le_add_right _ _))).trans (hex x hx)) (by rw [e1]; exact hP1) hD1 k3 (hag.LH wr hL) (by omega) (by omega) (hfin.mono hag g2.1 (by omega) (by omega))
    obtain ⟨t2, b1, b2⟩ := K2 T' rfl Y'
    refine ⟨t2, st t2 ?_, b2⟩
    have hst : (v.map (e_rl ad1)).toList ++ rest.map (e_rl ad) = (v.toList ++ rest).map (e_rl ad1) := by
      rw [List.map_append, hag.map wr.1]
      cases v <;> rfl
    show Steps p.tables e below (T'.setTop { F0 m pc ls _ with pc := pc + 3, stack := (v.map (e_rl ad1)).toList ++ rest.map (e_rl ad) }) t2
    rw [hst]
    exact b1
  · exact absurd hx (fun z => z)
end z_r3
/-- a call of a static method that throws nothing, with up to sixteen words below its arguments -/
theorem t_call9 {X : e_XT} {d pc ix mi pl nL0 : Nat} {K : e_KT} {ll : e_LL} {rest As : List Value} {p : e_Sp} {I : e_I} {J : e_Jt} {c : Nat × Nat} {w : e_Rw1} {Q : e_Rt → e_SS → Prop} {row : e_MT} {y0 : MethodName} {by0 : ByteArray} {rt0 : Option FieldType} (hd : decode K.2.2.1 pc = .ok (.invokestatic ix, 3)) (hcl : e_cl2 K.1 ix = some (ix, mi, pl, 0)) (hrow : e_M[mi]? = some row) (hw0 : e_tb row.2.2.1 = some (Cond.code y0 by0 nL0 rt0)) (hn0 : nL0 ≤ 37) (hmi : mi < 1000) (hst : row.2.1.2 = true) (hn : As.length = row.2.1.1) (hni : row.1.1.name ≠ "<init>") (hcat : (rest.map fun v => v.category).sum ≤ 16) (hc : s_c X d mi As (p, I, J, c, w) (fun r S' => ∃ v, r = .inl v ∧ s_w X (d + 1) K (pc + 3) ll (v.toList ++ rest) S' Q)) : s_w X (d + 1) K pc ll (As.reverse ++ rest) (p, I, J, c, w) Q := fun h hs => by
  obtain ⟨r, h1, S1, ⟨v, rfl, k⟩, b, c⟩ := hc h hs
  obtain ⟨r2, h2, S2, q, z, c2⟩ := k h1 b
  exact ⟨r2, h2, S2, q, z, e_J.call9 hst hni hw0 hn0 c hrow hcl hmi rfl rfl hn hcat hd c2⟩
