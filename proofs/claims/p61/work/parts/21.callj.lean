/-! 21: calls in the judgement -/
def e_HKck (r : Nat × Nat × Nat) : Bool := e_w r.2.2 (.classLink "RankhallLaw" r.1 (e_en r.2.1))
theorem e_HK_ok : e_HK.all e_HKck = true := by decide +kernel
def e_ce : Nat → Nat := fun i => match i with
  | 0 => 606
  | 1 => 679
  | 2 => 927
  | 3 => 1010
  | 4 => 1199
  | _ => 1667
theorem e_CE_ok : ((List.range 6).all fun i => e_wn (e_ce i) (.castable (e_en i) (e_en i))) = true := by decide +kernel
theorem e_CE (i : Nat) (h : i < 6) : Cond.castable (e_en i) (e_en i) ∈ e_nt := e_wn_in (List.all_eq_true.mp e_CE_ok i (List.mem_range.mpr h))
section e_cj
variable {X : e_XT} {d : Nat} {K : e_KT} {pc ix mi pl ho E : Nat} {i : Instr} {ll : e_LL} {st rest As a9 : List Value} {h h1 h' : e_Hp} {r : e_Rt} {v : Option Value} {row : e_MT} {b : Nat}
theorem e_cf.ok (hcf : e_cf K i ix row As b a9 st rest h) (w : e_wfs (e_n h) ll st) : (∀ v ∈ a9, e_okv (e_n h) v) ∧ e_wfs (e_n h) ll rest := by
  have key : ∀ pre : List Value, st = pre ++ rest → e_wfs (e_n h) ll rest := fun pre e => ⟨fun v hv => w.1 v (by rw [e]; exact List.mem_append_right _ hv), w.2⟩
  rcases hcf with ⟨-, -, rfl, rfl⟩ | ⟨-, -, -, rfl, rfl, -⟩ | ⟨-, -, -, rfl, rfl⟩
  · exact ⟨fun v hv => w.1 v (List.mem_append_left _ (List.mem_reverse.mpr hv)), key _ rfl⟩
  · exact ⟨fun v hv => w.1 v ((List.mem_cons.mp hv).elim (fun e => e ▸ List.mem_append_right _ List.mem_cons_self) (fun hv => List.mem_append_left _ (List.mem_reverse.mpr hv))), key (As.reverse ++ [.ref b]) (by simp)⟩
  · exact ⟨fun v hv => w.1 v ((List.mem_cons.mp hv).elim (fun e => e ▸ List.mem_append_right _ List.mem_cons_self) (fun hv => List.mem_append_left _ (List.mem_reverse.mpr hv))), key (As.reverse ++ [.ref b]) (by simp)⟩
theorem e_J.call (hM : e_Mt X d mi a9 h (.inl v) h1) (hrow : e_M[mi]? = some row) (hcl : e_cl2 K.1 ix = some (ix, mi, pl, ho)) (hmi : mi < 1000) (hho : ho ≠ 0 → row.1.2 ≠ 21) (hcf : e_cf K i ix row As b a9 st rest h) (hn : As.length = row.2.1.1) (hcat : (rest.map fun v => v.category).sum ≤ 8) (hdg : decode K.2.2.1 pc = .ok (i, 3))
    (k : e_J X (d + 1) K (pc + 3) ll (v.toList ++ rest) h1 r h') : e_J X (d + 1) K pc ll st h r h' := by
  intro hw w
  obtain ⟨hok, wr⟩ := hcf.ok w
  obtain ⟨⟨g1, g2, g3⟩, -⟩ := hM.choose_spec.choose_spec.2.2 hw hok
  have wk : e_wfs (e_n h1) ll (v.toList ++ rest) := by
    have wr1 := wr.mono g2.1
    cases v with
    | none => exact wr1
    | some v => exact wr1.cons g3
  obtain ⟨⟨a1, a2, a3⟩, kk⟩ := k g1 wk
  have u1 := g2.2.1
  have u2 := g2.2.2
  have v1 := a2.2.1
  have v2 := a2.2.2
  refine ⟨⟨a1, g2.trans a2, a3⟩, fun p l e R s m args below meth c H locs cells slots Q ad ls D cA ex A C hf hl hex hP hD hS hL hc hs hfin => ?_⟩
  obtain ⟨a, hr⟩ := e_run C (e := e) (below := below) (d := d) (by omega) (by omega) hex hP hD hS hL hw w hM hrow hcl hmi (fun z => ⟨⟨_, rfl⟩, hho z⟩) (fun _ => ⟨_, rfl⟩) hcf hn hcat hdg (cells := cells) (slots := slots) (by omega) (by omega)
  intro T hT Y
  rcases hr T hT Y with ⟨v', st₀, t, T', L, h0, Y', hLf, e1, e2, hQ, st⟩ | ⟨q, st₀, t, T', L, E, ce, h0, Y', hLf, e1, e2, hx, -⟩
  · obtain ⟨ad1, hv, hag, hP1, hD1, hF⟩ := hQ
    cases hv
    obtain ⟨k1, k2, k3⟩ := vx_keep h0 e1 hS (fun q _ h => h) (fun q h => h) hLf hF
    have K2 := kk p l e R s m args below meth c T'.heap (locs ++ L) (cells + (e_c h1 - e_c h)) (slots + (e_s h1 - e_s h)) Q ad1 ls D cA ex A C hf hl (fun x hx => (hag _ (Or.inr (Nat.le_add_right _ _))).trans (hex x hx)) (by rw [e1]; exact hP1) hD1 k3 (hag.LH wr hL) (by omega) (by omega) (hfin.mono hag g2.1 (by omega) (by omega))
    obtain ⟨t2, b1, b2⟩ := K2 T' rfl Y'
    refine ⟨t2, st t2 ?_, b2⟩
    have hst : (v.map (e_rl ad1)).toList ++ rest.map (e_rl ad) = (v.toList ++ rest).map (e_rl ad1) := by
      rw [List.map_append, hag.map wr.1]
      cases v <;> rfl
    show Steps p.tables e below (T'.setTop { F0 m pc ls _ with pc := pc + 3, stack := (v.map (e_rl ad1)).toList ++ rest.map (e_rl ad) }) t2
    rw [hst]
    exact b1
  · exact absurd hx (fun z => z)
/-- the callee throws, and nobody catches it here -/
theorem e_J.callX (hM : e_Mt X d mi a9 h (.inr E) h1) (hrow : e_M[mi]? = some row) (hcl : e_cl2 K.1 ix = some (ix, mi, pl, 0)) (hmi : mi < 1000) (hni : row.1.1.name ≠ "<init>") (hcf : e_cf K i ix row As b a9 st rest h) (hn : As.length = row.2.1.1) (hcat : (rest.map fun v => v.category).sum ≤ 8) (hdg : decode K.2.2.1 pc = .ok (i, 3)) (hh : K.2.2.2.2 = []) :
    e_J X (d + 1) K pc ll st h (.inr E) h1 := by
  intro hw w
  obtain ⟨hok, wr⟩ := hcf.ok w
  obtain ⟨⟨g1, g2, g3⟩, -⟩ := hM.choose_spec.choose_spec.2.2 hw hok
  refine ⟨⟨g1, g2, trivial⟩, fun p l e R s m args below meth c H locs cells slots Q ad ls D cA ex A C hf hl hex hP hD hS hL hc hs hfin => ?_⟩
  have hrun := e_run C (e := e) (below := below) (d := d) (by omega) (by omega) hex hP hD hS hL hw w hM hrow hcl hmi (fun z => absurd rfl z) (fun z => absurd z hni) hcf hn hcat hdg (cells := cells) (slots := slots) hc hs
  obtain ⟨a, hr⟩ := hrun
  obtain ⟨-, hSg, hml, hlk, htab, hstk⟩ := C
  obtain ⟨Qc, XC, mc, ms, rfl, hmc, hms, hx⟩ := hfin
  intro T hT Y
  rcases hr T hT Y with ⟨v', st₀, t, T', L, h0, Y', hLf, e1, e2, hQ, st⟩ | ⟨q, st₀, t, T', L, E', ce, h0, Y', hLf, e1, e2, hX, hce, hcv, hcl9, st⟩
  · exact absurd hQ (fun z => z)
  · obtain ⟨rfl, ad1, hag, hP1, hD1, hF⟩ := hX
    obtain ⟨k1, k2, k3⟩ := vx_keep h0 e1 hS (fun q _ h => h) (fun q h => h) hLf hF
    have K2 := vx_out (R := R) (p := p) (l := l) (e := e) (s := s) (m := m) (args := args) (below := below) (meth := meth) (c := c) (H := T'.heap) (locs := locs ++ L) (cells := cells + (e_c h1 - e_c h)) (slots := slots + (e_s h1 - e_s h)) (free := A) (ls := ls) (rest := rest.map (e_rl ad)) (Qc := Qc) (XC := XC) (pc := pc) (mc := mc) (ms := ms) (fun x hx => by rw [htab, hh, e_tb0] at hx; cases hx) hlk (by rw [e1]; exact hce) hcv hcl9
      (fun t9 ht9 ha9 => hx ad1 t9 hag ha9 (by rw [ht9, e1]; exact hP1) hD1 (k3.F ht9)) k3.2.2 hmc hms
    obtain ⟨t2, b1, b2⟩ := K2 T' rfl Y'
    exact ⟨t2, st.trans b1, b2⟩
/-- the callee throws, and the row of this table catches it: 'catch (E e) { return n; }' -/
theorem e_J.catch {pre suf : List (Nat × Nat × Nat × Nat)} {sp ep hp hq ct j pl9 : Nat} {n : Int} (hM : e_Mt X d mi a9 h (.inr E) h1) (hrow : e_M[mi]? = some row) (hcl : e_cl2 K.1 ix = some (ix, mi, pl, 0)) (hmi : mi < 1000) (hni : row.1.1.name ≠ "<init>") (hcf : e_cf K i ix row As b a9 st rest h) (hn : As.length = row.2.1.1) (hcat : (rest.map fun v => v.category).sum ≤ 8) (hdg : decode K.2.2.1 pc = .ok (i, 3))
    (hK : K.1 = 21) (hE : E < 6) (hh : K.2.2.2.2 = pre ++ (sp, ep, hp, ct) :: suf) (hcov : covers ⟨sp, ep, hp, ct⟩ pc = true) (hct : (ct, E, pl9) ∈ e_HK) (hct0 : ct ≠ 0) (hpre : ∀ z ∈ pre, z.2.2.2 ≠ 0 ∧ ∃ E' pl', E' < 6 ∧ E ≠ E' ∧ (z.2.2.2, E', pl') ∈ e_HK)
    (d1 : (∃ k : Fin 4, (k : Nat) = j ∧ decode K.2.2.1 hp = .ok (.astore_n k, 1) ∧ hq = hp + 1) ∨ (decode K.2.2.1 hp = .ok (.astore j, 2) ∧ hq = hp + 2)) (hj : j < K.2.2.2.1) (d2 : decode K.2.2.1 hq = .ok (.iconst n, 1)) (d3 : decode K.2.2.1 (hq + 1) = .ok (.ireturn, 1)) :
    e_J X (d + 1) K pc ll st h (.inl (some (.int (Int32.ofInt n)))) h1 := by
  intro hw w
  obtain ⟨hok, wr⟩ := hcf.ok w
  obtain ⟨⟨g1, g2, g3⟩, -⟩ := hM.choose_spec.choose_spec.2.2 hw hok
  refine ⟨⟨g1, g2, e_okv.int⟩, fun p l e R s m args below meth c H locs cells slots Q ad ls D cA ex A C hf hl hex hP hD hS hL hc hs hfin => ?_⟩
  have hrun := e_run C (e := e) (below := below) (d := d) (by omega) (by omega) hex hP hD hS hL hw w hM hrow hcl hmi (fun z => absurd rfl z) (fun z => absurd z hni) hcf hn hcat hdg (cells := cells) (slots := slots) hc hs
  obtain ⟨a, hr⟩ := hrun
  obtain ⟨⟨hexec, hb, -, hown, -, hts, -⟩, hSg, hml, hlk, htab, hstk⟩ := C
  rw [hK] at hown
  have hown : s.vm.findClass "RankhallLaw" = some m.cls := hown
  have hln : ∀ {z E9 p9 : Nat}, (z, E9, p9) ∈ e_HK → (Cond.classLink "RankhallLaw" z (e_en E9)).before args s = true := fun hz => hts _ (e_w_in (List.all_eq_true.mp e_HK_ok _ hz))
  intro T hT Y
  rcases hr T hT Y with ⟨v', st₀, t, T', L, h0, Y', hLf, e1, e2, hQ, st⟩ | ⟨q, st₀, t, T', L, E', ce, h0, Y', hLf, e1, e2, hX, hce, hcv, hcl9, st⟩
  · exact absurd hQ (fun z => z)
  · obtain ⟨rfl, ad1, hag, hP1, hD1, hF⟩ := hX
    obtain ⟨k1, k2, k3⟩ := vx_keep h0 e1 hS (fun q _ h => h) (fun q h => h) hLf hF
    have hL0 : lv_has ls K.2.2.2.1 [] := ⟨hL.2.1, hL.1, fun q hq => by cases hq⟩
    have fin : ∀ ls' : Array Slot, ls'.size = K.2.2.2.1 → W p l e R s m args below meth c T'.heap (locs ++ L) (cells + (e_c h1 - e_c h)) (slots + (e_s h1 - e_s h)) Q (F0 m hq ls' []) := fun ls' hsz => lv_iconst hexec hb d2 rfl (hfin ad1 T'.heap (locs ++ L) ls' (hq + 1) .ireturn d3 rfl hag (by rw [e1]; exact hP1) hD1 k3 hsz)
    have K2 := vx_catch (R := R) (p := p) (l := l) (e := e) (s := s) (m := m) (args := args) (below := below) (meth := meth) (c := c) (H := T'.heap) (locs := locs ++ L) (cells := cells + (e_c h1 - e_c h)) (slots := slots + (e_s h1 - e_s h)) (ls := ls) (rest := rest.map (e_rl ad)) (Q := Q) (pc := pc) (E := e_en E) (ce := ce) (q := q) (name := e_en E) hown (tableOf pre) ⟨sp, ep, hp, ct⟩ (tableOf suf) (by rw [htab, hh]; unfold tableOf; rw [List.map_append, List.map_cons])
      (fun z hz => by
        obtain ⟨z0, hz0, rfl⟩ := List.mem_map.mp hz
        obtain ⟨h0, E9, p9, hE9, hne, hm9⟩ := hpre z0 hz0
        exact Or.inr ⟨h0, e_en E9, hln hm9, hSg.2.1 E E9 hE hE9 hne⟩) hcov hct0 (hln hct) ((hSg.1.2.1 _ (e_CE E hE)).use (e_nt_on (e_CE E hE))) (by rw [e1]; exact hce) hcv hcl9
      (by
        rcases d1 with ⟨k, hk, d1, rfl⟩ | ⟨d1, rfl⟩
        · exact lv_astore_n hexec hb d1 hk hL0 hj rfl (fun ls' h9 => fin ls' h9.1)
        · exact lv_astore hexec hb d1 hL0 hj rfl (fun ls' h9 => fin ls' h9.1))
    obtain ⟨t2, b1, b2⟩ := K2 T' rfl Y'
    exact ⟨t2, st.trans b1, b2⟩
end e_cj
