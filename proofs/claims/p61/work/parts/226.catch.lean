/-! 226: exceptions that are caught and answered by a constant (printed by wip/p61/mk6.py) -/
def e_ctv (K : e_KT) (hq : Nat) (v : Value) : Prop := (∃ n : Int, decode K.2.2.1 hq = .ok (.bipush n, 2) ∧ decode K.2.2.1 (hq + 2) = .ok (.ireturn, 1) ∧ v = .int (Int8.ofInt n).toInt32) ∨ (decode K.2.2.1 hq = .ok (.ldc2_w 176, 3) ∧ decode K.2.2.1 (hq + 3) = .ok (.dreturn, 1) ∧ v = .double 13858279740860792832)
theorem e_ctv.ok {K : e_KT} {hq n : Nat} {v : Value} (h : e_ctv K hq v) : e_okr n (.inl (some v)) := by
  rcases h with ⟨k, -, -, rfl⟩ | ⟨-, -, rfl⟩
  · exact e_okv.int
  · exact e_okv.double
theorem e_ctv.rl {K : e_KT} {hq : Nat} {v : Value} (h : e_ctv K hq v) : v.isRef = false ∧ ∀ ad : Nat → Nat, e_rl ad v = v := by
  rcases h with ⟨k, -, -, rfl⟩ | ⟨-, -, rfl⟩
  · exact ⟨rfl, fun _ => rfl⟩
  · exact ⟨rfl, fun _ => rfl⟩
section e_cv
variable {X : e_XT} {d : Nat} {K : e_KT} {pc ix mi pl ho E : Nat} {i : Instr} {ll : e_LL} {st rest As a9 : List Value} {h h1 h' : e_Hp} {r : e_Rt} {row : e_MT} {b : Nat}
theorem e_J.catchV {pre suf : List (Nat × Nat × Nat × Nat)} {sp ep hp hq ct j pl9 : Nat} {v : Value} (hM : e_Mt X d mi a9 h (.inr E) h1) (hrow : e_M[mi]? = some row) (hcl : e_cl2 K.1 ix = some (ix, mi, pl, 0)) (hmi : mi < 1000) (hni : row.1.1.name ≠ "<init>") (hcf : e_cf K i ix row As b a9 st rest h) (hn : As.length = row.2.1.1) (hcat : (rest.map fun v => v.category).sum ≤ 8) (hdg : decode K.2.2.1 pc = .ok (i, 3))
    (hK : K.1 = 21) (hE : E < 6) (hh : K.2.2.2.2 = pre ++ (sp, ep, hp, ct) :: suf) (hcov : covers ⟨sp, ep, hp, ct⟩ pc = true) (hct : (ct, E, pl9) ∈ e_HK) (hct0 : ct ≠ 0) (hpre : ∀ z ∈ pre, z.2.2.2 ≠ 0 ∧ ∃ E' pl', E' < 6 ∧ E ≠ E' ∧ (z.2.2.2, E', pl') ∈ e_HK)
    (d1 : (∃ k : Fin 4, (k : Nat) = j ∧ decode K.2.2.1 hp = .ok (.astore_n k, 1) ∧ hq = hp + 1) ∨ (decode K.2.2.1 hp = .ok (.astore j, 2) ∧ hq = hp + 2)) (hj : j < K.2.2.2.1) (d2 : e_ctv K hq v) :
    e_J X (d + 1) K pc ll st h (.inl (some v)) h1 := by
  intro hw w
  obtain ⟨hok, wr⟩ := hcf.ok w
  obtain ⟨⟨g1, g2, g3⟩, -⟩ := hM.choose_spec.choose_spec.2.2 hw hok
  refine ⟨⟨g1, g2, d2.ok⟩, fun p l e R s m args below meth c H locs cells slots Q ad ls D cA ex A C hf hl hex hP hD hS hL hc hs hfin => ?_⟩
  have hrun := e_run C (e := e) (below := below) (d := d) (by omega) (by omega) hex hP hD hS hL hw w hM hrow hcl hmi (fun z => absurd rfl z) (fun z => absurd z hni) hcf hn hcat hdg (cells := cells) (slots := slots) hc hs
  obtain ⟨a, hr⟩ := hrun
  obtain ⟨⟨hexec, hb, -, hown, -, hts, -⟩, hSg, hml, hlk, htab, hstk⟩ := C
  rw [hK] at hown
  have hown : s.vm.findClass "RankhallLaw" = some m.cls := hown
  have hln : ∀ {z E9 p9 : Nat}, (z, E9, p9) ∈ e_HK → (Cond.classLink "RankhallLaw" z (e_en E9)).before args s = true := fun hz => hts _ (e_w_in (List.all_eq_true.mp e_HK_ok _ hz))
  intro T hT Y
  rcases hr T hT Y with ⟨v', st₀, t, T', L, h0, Y', hLf, e1, e2, hQ, st⟩ | ⟨q, st₀, t, T', L, E', ce, h0, Y', hLf, e1, e2, hX, hce, hcv, hcl9, st⟩
  · exact absurd hQ (fun z => z)
  · obtain ⟨rfl, ad1, hag, hP1, hD1, hF⟩ := hX
    obtain ⟨k1, k2, k3⟩ := vx_keep h0 e1 hS (fun q _ h => h) (fun q h => h) hLf hF
    have hL0 : lv_has ls K.2.2.2.1 [] := ⟨hL.2.1, hL.1, fun q hq => by cases hq⟩
    have hval : v.isRef = false ∧ ∀ ad : Nat → Nat, e_rl ad v = v := d2.rl
    have fin : ∀ ls' : Array Slot, ls'.size = K.2.2.2.1 → W p l e R s m args below meth c T'.heap (locs ++ L) (cells + (e_c h1 - e_c h)) (slots + (e_s h1 - e_s h)) Q (F0 m hq ls' []) := fun ls' hsz => by
      rcases d2 with ⟨n, d2, d3, rfl⟩ | ⟨d2, d3, rfl⟩
      · exact lv_bipush hexec hb d2 rfl (hfin ad1 T'.heap (locs ++ L) ls' (hq + 2) .ireturn d3 rfl hag (by rw [e1]; exact hP1) hD1 k3 hsz)
      · have hN := e_S_ok
        simp only [Bool.and_eq_true] at hN
        obtain ⟨-, -, -, -, n5, -⟩ := hN
        exact lv_ldc2d hexec hb (own := "RankhallLaw") hown (hts _ (e_w_in n5)) d2 (hfin ad1 T'.heap (locs ++ L) ls' (hq + 3) .dreturn d3 rfl hag (by rw [e1]; exact hP1) hD1 k3 hsz)
    have K2 := vx_catch (R := R) (p := p) (l := l) (e := e) (s := s) (m := m) (args := args) (below := below) (meth := meth) (c := c) (H := T'.heap) (locs := locs ++ L) (cells := cells + (e_c h1 - e_c h)) (slots := slots + (e_s h1 - e_s h)) (ls := ls) (rest := rest.map (e_rl ad)) (Q := Q) (pc := pc) (E := e_en E) (ce := ce) (q := q) (name := e_en E) hown (tableOf pre) ⟨sp, ep, hp, ct⟩ (tableOf suf) (by rw [htab, hh]; unfold tableOf; rw [List.map_append, List.map_cons])
      (fun z hz => by
        obtain ⟨z0, hz0, rfl⟩ := List.mem_map.mp hz
        obtain ⟨h0, E9, p9, hE9, hne, hm9⟩ := hpre z0 hz0
        exact Or.inr ⟨h0, e_en E9, hln hm9, hSg.2.1 E E9 hE hE9 hne⟩) hcov hct0 (hln hct) ((hSg.1.2.1 _ (e_CE E hE)).use (e_nt_on (e_CE E hE))) (by rw [e1]; exact hce) hcv hcl9
      (by
        rcases d1 with ⟨k, hk, d1, rfl⟩ | ⟨d1, rfl⟩
        · exact lv_astore_n hexec hb d1 hk hL0 hj rfl (fun ls' h9 => fin ls' h9.1)
        · exact lv_astore hexec hb d1 hL0 hj rfl (fun ls' h9 => fin ls' h9.1))
    obtain ⟨t2, b1, b2⟩ := K2 T' rfl Y'
    exact ⟨t2, st.trans b1, b2⟩
end e_cv
