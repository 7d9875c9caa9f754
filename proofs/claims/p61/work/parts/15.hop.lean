/-! 15: soundness of the steps on the heap: stores, makings, the rest -/
section e_hs2
variable {p : Program} {l : Launch} {e : Env} {R : Room} {s : State} {m : MethodId} {args : Array Value} {below : List Frame} {meth : Method} {c : Code} {H : Heap} {locs : List Loc} {cells slots : Nat} {Q : State → Prop} {cc : ByteArray} {ad : Nat → Nat} {ls : Array Slot} {pc len own : Nat} {i : Instr} {st st' : List Value} {hp hp' : e_Hp} {ini : Bool} {D : va_G} {cA : Nat → ClassId} {X : e_XT} {ex : Nat → Nat} {A : Nat → Prop}
theorem e_up {α : Type} (g : Value → α) (vs : Nat → Value) (k : Nat) (v : Value) : (fun j => g (if j = k then v else vs j)) = fun j => if j = k then g v else g (vs j) := by
  funext j
  by_cases h : j = k
  · rw [if_pos h, if_pos h]
  · rw [if_neg h, if_neg h]
theorem e_wst {a i kd : Nat} {v : Value} {pl : (Nat → Int32) ⊕ (Nat → Int64) ⊕ (Nat → UInt32) ⊕ (Nat → UInt64) ⊕ (Nat → Option Nat)} (hlt : a < e_n hp) (hkd : e_kd hp a = kd) (h1 : 100 ≤ kd) (hpl : e_pl ad kd (fun j => if j = i then v else e_v hp a j) = pl) :
    e_wd cA ad (e_set hp a i v) = (e_wd cA ad hp).set a (ad a, .inl (cA kd, e_ln hp a, pl)) :=
  e_wd_set hlt ((e_ent_a (hp := e_set hp a i v) hkd h1).trans (by rw [e_v_set, hpl]; rfl))
theorem e_hC_ok (C : e_Cx own ini D cA X ex A p s m args meth c cc) (h : e_hC i len st hp = some (st', hp')) (hdg : decode cc pc = .ok (i, len)) (hP : va_P D vwCl (e_wd cA ad hp) H) (hD : va_D A (e_wd cA ad hp)) (hS : va_S A s.heap H locs)
    (k : ∀ H' locs', va_P D vwCl (e_wd cA ad hp') H' → va_D A (e_wd cA ad hp') → va_S A s.heap H' locs' → W p l e R s m args below meth c H' locs' cells slots Q (F0 m (pc + len) ls (st'.map (e_rl ad)))) :
    W p l e R s m args below meth c H locs cells slots Q (F0 m pc ls (st.map (e_rl ad))) := by
  obtain ⟨hexec, hb, ho, hown, hini, hts, hK, hnt, hAO, hX, -⟩ := C
  unfold e_hC at h
  split at h
  · split at h
    · rename_i hc
      cases h
      rw [e_wst hc.1 hc.2.1 (by decide) (congrArg Sum.inl (e_up e_toI _ _ _))] at k
      exact va_iast hexec hb hK hP hD hS _ 0 ((e_wd_get hc.1).trans (congrArg some (e_ent_a hc.2.1 (by decide)))) rfl (e_in_of hc.2.2) hdg (fun H1 L1 a b c => k H1 L1 a b c)
    · cases h
  · split at h
    · rename_i hc
      cases h
      rw [e_wst hc.1 hc.2.1 (by decide) (congrArg Sum.inl (e_up e_toI _ _ _))] at k
      exact va_zast hexec hb hK hP hD hS _ 1 ((e_wd_get hc.1).trans (congrArg some (e_ent_a hc.2.1 (by decide)))) rfl (e_in_of hc.2.2) hdg (fun H1 L1 a b c => k H1 L1 a b c)
    · cases h
  · split at h
    · rename_i hc
      cases h
      rw [e_wst hc.1 hc.2.1 (by decide) (congrArg Sum.inl (e_up e_toI _ _ _))] at k
      exact va_cast hexec hb hK hP hD hS _ 2 ((e_wd_get hc.1).trans (congrArg some (e_ent_a hc.2.1 (by decide)))) rfl (e_in_of hc.2.2) hdg (fun H1 L1 a b c => k H1 L1 a b c)
    · cases h
  · split at h
    · rename_i hc
      cases h
      rw [e_wst hc.1 hc.2.1 (by decide) (congrArg (fun f => Sum.inr (Sum.inl f)) (e_up e_toJ _ _ _))] at k
      exact va_last hexec hb hK hP hD hS _ 3 ((e_wd_get hc.1).trans (congrArg some (e_ent_a hc.2.1 (by decide)))) rfl (e_in_of hc.2.2) hdg (fun H1 L1 a b c => k H1 L1 a b c)
    · cases h
  · split at h
    · rename_i hc
      cases h
      rcases hc.2.1 with h5 | h5
      · rw [e_wst hc.1 h5 (by decide) (congrArg (fun f => Sum.inr (Sum.inr (Sum.inr (Sum.inr f)))) (e_up (fun v => (e_toO v).map ad) _ _ _))] at k
        exact va_astqN hexec hb hK hP hD hS _ 5 ((e_wd_get hc.1).trans (congrArg some (e_ent_a h5 (by decide)))) rfl (e_in_of hc.2.2) hdg (fun H1 L1 a b c => k H1 L1 a b c)
      · rw [e_wst hc.1 h5 (by decide) (congrArg (fun f => Sum.inr (Sum.inr (Sum.inr (Sum.inr f)))) (e_up (fun v => (e_toO v).map ad) _ _ _))] at k
        exact va_astqN hexec hb hK hP hD hS _ 6 ((e_wd_get hc.1).trans (congrArg some (e_ent_a h5 (by decide)))) rfl (e_in_of hc.2.2) hdg (fun H1 L1 a b c => k H1 L1 a b c)
    · cases h
  · split at h
    · rename_i hc
      cases h
      obtain ⟨hlt, hv, hk, hin⟩ := hc
      rcases hk with ⟨h5, h6⟩ | ⟨h5, h6, h7⟩
      · rw [e_wst hlt h5 (by decide) (congrArg (fun f => Sum.inr (Sum.inr (Sum.inr (Sum.inr f)))) (e_up (fun v => (e_toO v).map ad) _ _ _))] at k
        exact va_astq hexec hb hK hP hD hS _ 6 _ 10 ((e_wd_get hlt).trans (congrArg some (e_ent_a h5 (by decide)))) (r := (e_cn 10, e_cT 10, e_cF 10)) rfl ((e_wd_get hv).trans (congrArg some (e_ent_o h6 (by decide)))) (e_vw 10 (by decide)) (e_in_of hin) hdg (fun H1 L1 a b c => k H1 L1 a b c)
      · rw [e_wst hlt h5 (by decide) (congrArg (fun f => Sum.inr (Sum.inr (Sum.inr (Sum.inr f)))) (e_up (fun v => (e_toO v).map ad) _ _ _))] at k
        have h8 := List.all_eq_true.mp e_NC_ok _ (List.mem_range.mpr h6)
        unfold e_ob at h7
        split at h7
        · rename_i q hq
          rw [hq] at h8
          have h9 := e_wn_in (((Bool.or_eq_true _ _).mp h8).resolve_left (fun h => of_decide_eq_true h7 (of_decide_eq_true h)))
          exact va_astqO hexec hb hK hP hD hS _ 5 _ _ ((e_wd_get hlt).trans (congrArg some (e_ent_a h5 (by decide)))) rfl (hnt _ h9) ((e_wd_get hv).trans (congrArg some (e_ent_o rfl h6))) (e_vw _ h6) (e_in_of hin) hdg (fun H1 L1 a b c => k H1 L1 a b c)
        · cases h7
    · cases h
  · cases h
theorem e_RAu {c c' : ClassId} {ty : FieldType} (h : va_RA s c ty) (h' : va_RA s c' ty) : c' = c := by
  cases ty
  all_goals first
    | exact Option.some.inj (Eq.trans (Eq.symm h') h)
    | (obtain ⟨_, _, _, _, _, h1⟩ := h
       obtain ⟨_, _, _, _, _, h2⟩ := h'
       exact Option.some.inj (h2.symm.trans h1))
theorem e_cAu {c' : ClassId} {ty : FieldType} {t kd : Nat} (ht : (e_tys cA)[t]? = some (cA kd, ty)) (h : va_K D vwCl (e_tys cA ++ [(c', ty)]) s) : c' = cA kd := by
  have h1 : t < (e_tys cA).length := by
    rcases Nat.lt_or_ge t (e_tys cA).length with h | h
    · exact h
    · rw [List.getElem?_eq_none h] at ht; cases ht
  have h2 := (h.2 t (cA kd, ty) (by rw [List.getElem?_append_left h1]; exact ht)).2
  have h3 := (h.2 (e_tys cA).length (c', ty) (by rw [List.getElem?_append_right (Nat.le_refl _), Nat.sub_self]; rfl)).2
  exact e_RAu h2 h3
theorem e_dv (ad : Nat → Nat) (ty : FieldType) : e_rl ad (e_rd ty .null) = defaultValue ty := by cases ty <;> rfl
theorem e_nd_new (h : e_Hp) (kd ln sl : Nat) : e_kd (e_new h kd ln sl) (e_n h) = kd ∧ e_ln (e_new h kd ln sl) (e_n h) = ln ∧ e_v (e_new h kd ln sl) (e_n h) = fun _ => .null := by
  refine ⟨?_, ?_, ?_⟩
  · unfold e_kd e_new e_n; simp only [if_true]
  · unfold e_ln e_new e_n; simp only [if_true]
  · unfold e_v e_new e_n; simp only [if_true]
def e_adn (ad : Nat → Nat) (n q : Nat) : Nat → Nat := fun k => if k = n then q else ad k
theorem e_adn_ag {ad : Nat → Nat} {n q : Nat} (hn : n < e_xb) : e_ag n ad (e_adn ad n q) := by
  intro k hk
  unfold e_adn
  rw [if_neg (by omega)]
theorem e_hD_ok (C : e_Cx own ini D cA X ex A p s m args meth c cc) (h : e_hD own i len st hp = some (st', hp')) (hdg : decode cc pc = .ok (i, len)) (hwh : e_wh hp) (hst : ∀ v ∈ st, e_okv (e_n hp) v) (hP : va_P D vwCl (e_wd cA ad hp) H) (hD : va_D A (e_wd cA ad hp)) (hS : va_S A s.heap H locs)
    (hroom : cells + (e_c hp' - e_c hp) ≤ R.cells ∧ slots + (e_s hp' - e_s hp) ≤ R.slots)
    (k : ∀ ad' H' locs', e_ag (e_n hp) ad ad' → va_P D vwCl (e_wd cA ad' hp') H' → va_D A (e_wd cA ad' hp') → va_S A s.heap H' locs' → W p l e R s m args below meth c H' locs' (cells + (e_c hp' - e_c hp)) (slots + (e_s hp' - e_s hp)) Q (F0 m (pc + len) ls (st'.map (e_rl ad')))) :
    W p l e R s m args below meth c H locs cells slots Q (F0 m pc ls (st.map (e_rl ad))) := by
  obtain ⟨hexec, hb, ho, hown, hini, hts, hK, hnt, hAO, hX, -, -, -, -, hA⟩ := C
  have e1 : ∀ kd ln sl, e_c (e_new hp kd ln sl) - e_c hp = 1 := fun _ _ _ => Nat.add_sub_cancel_left _ _
  have e2 : ∀ kd ln sl, e_s (e_new hp kd ln sl) - e_s hp = sl := fun _ _ _ => Nat.add_sub_cancel_left _ _
  have e3 : ∀ q : Nat, e_adn ad (e_n hp) q (e_n hp) = q := fun q => by unfold e_adn; rw [if_pos rfl]
  unfold e_hD at h
  split at h
  · split at h
    · rename_i r hr
      split at h
      · rename_i hn
        cases h
        obtain ⟨hm, rfl⟩ := e_find hr
        have h1 := List.all_eq_true.mp (List.all_eq_true.mp e_NL_ok own (List.mem_range.mpr ho)) r hm
        unfold e_NLck at h1
        rw [Bool.and_eq_true, Bool.and_eq_true] at h1
        obtain ⟨h2, h3, h4⟩ := h1
        have h21 := of_decide_eq_true h3
        split at h4
        · rw [Bool.and_eq_true] at h4
          rw [e1, e2] at hroom k
          refine va_new hexec hb hts (e_uw h21) (e_cY r.2.1) (e_ty _ h21) hown (hts _ (e_w_in h2)) (hts _ (e_w_in h4.1)) (hts _ (e_w_in h4.2)) hK hP hD hS hA (e_vw _ h21) (fs := e_fs ad r.2.1 (fun _ => .null)) (fun j hj => ?_) hroom.1 hroom.2 hdg (fun q H1 a b c => ?_)
          · unfold vp_V
            rw [List.getD_eq_getElem?_getD, e_fs_get _ _ hj, e_dv]; rfl
          · have hag : e_ag (e_n hp) ad (e_adn ad (e_n hp) q) := e_adn_ag hn
            have h9 : e_wd cA (e_adn ad (e_n hp) q) (e_new hp r.2.1 0 (e_cF r.2.1)) = e_wd cA ad hp ++ [(q, .inr (r.2.1, e_fs ad r.2.1 (fun _ => .null)))] := e_wd_new hag hwh ((e_ent_o (e_nd_new hp _ _ _).1 h21).trans (by
              rw [(e_nd_new hp _ _ _).2.2, e3]
              have e5 : e_fs (e_adn ad (e_n hp) q) r.2.1 (fun _ => .null) = e_fs ad r.2.1 (fun _ => .null) := List.map_congr_left (fun j _ => by rw [e_dv, e_dv])
              rw [e5]))
            have k9 := k (e_adn ad (e_n hp) q) H1 locs hag (by rw [h9]; exact a) (by rw [h9]; exact b) c
            rw [List.map_cons, hag.map hst] at k9
            have e6 : e_rl (e_adn ad (e_n hp) q) (.ref (e_n hp)) = .ref q := congrArg Value.ref (e3 q)
            rw [e6] at k9
            exact k9
        · cases h4
      · cases h
    · cases h
  · rename_i t nn st0
    split at h
    · rename_i hn
      cases h
      obtain ⟨ht, hn0, hnb, hnx⟩ := hn
      rw [e1, e2] at hroom k
      have hz := e_AC_ok
      simp only [Bool.and_eq_true] at hz
      have fin : ∀ (kd t0 : Nat) (ty : FieldType) (N : Nat) (pl : (Nat → Int32) ⊕ (Nat → Int64) ⊕ (Nat → UInt32) ⊕ (Nat → UInt64) ⊕ (Nat → Option Nat)), 100 ≤ kd → (e_tys cA)[t0]? = some (cA kd, ty) → (∀ ad', e_pl ad' kd (fun _ => .null) = pl) →
          (∀ ad' H' locs', e_ag (e_n hp) ad ad' → va_P D vwCl (e_wd cA ad' (e_new hp kd N N)) H' → va_D A (e_wd cA ad' (e_new hp kd N N)) → va_S A s.heap H' locs' → W p l e R s m args below meth c H' locs' (cells + 1) (slots + N) Q (F0 m (pc + 2) ls ((.ref (e_n hp) :: st0).map (e_rl ad')))) →
          ∀ (q : Nat) (c' : ClassId) (H1 : Heap), va_K D vwCl (e_tys cA ++ [(c', ty)]) s → va_P D vwCl (e_wd cA ad hp ++ [(q, .inl (c', N, pl))]) H1 → va_D A (e_wd cA ad hp ++ [(q, .inl (c', N, pl))]) → va_S A s.heap H1 locs →
          W p l e R s m args below meth c H1 locs (cells + 1) (slots + N) Q (F0 m (pc + 2) ls (.ref q :: (st0).map (e_rl ad))) := by
        intro kd t0 ty N pl hkd ht0 hpl kk q c' H1 hK' a b c
        have hc := e_cAu ht0 hK'
        rw [hc] at a b
        have hag : e_ag (e_n hp) ad (e_adn ad (e_n hp) q) := e_adn_ag hnx
        have h9 : e_wd cA (e_adn ad (e_n hp) q) (e_new hp kd N N) = e_wd cA ad hp ++ [(q, .inl (cA kd, N, pl))] := e_wd_new hag hwh ((e_ent_a (e_nd_new hp _ _ _).1 hkd).trans (by
          rw [(e_nd_new hp _ _ _).2.2, (e_nd_new hp _ _ _).2.1, e3, hpl]))
        have k9 := kk (e_adn ad (e_n hp) q) H1 locs hag (by rw [h9]; exact a) (by rw [h9]; exact b) c
        rw [List.map_cons, hag.map (fun v hv => hst v (List.mem_cons_of_mem _ hv))] at k9
        have e6 : e_rl (e_adn ad (e_n hp) q) (.ref (e_n hp)) = .ref q := congrArg Value.ref (e3 q)
        rw [e6] at k9
        exact k9
      have hneg : ¬ nn < 0 := Int32.not_lt.mpr hn0
      cases t <;> first
        | exact absurd ht (by decide)
        | exact va_newa hexec hb (hts _ (e_w_in hz.1)) rfl hK hP hD hS hA (a0 := (nn.toNatClampNeg, .inl (fun _ => 0))) (fun _ => rfl) hneg rfl (Nat.le_trans (Nat.mul_le_mul_left _ (by decide)) hnb) hroom.1 hroom.2 hdg (fin 100 0 .int _ _ (by decide) rfl (fun _ => rfl) k)
        | exact va_newa hexec hb (hts _ (e_w_in hz.2.1)) rfl hK hP hD hS hA (a0 := (nn.toNatClampNeg, .inl (fun _ => 0))) (fun _ => rfl) hneg rfl (Nat.le_trans (Nat.mul_le_mul_left _ (by decide)) hnb) hroom.1 hroom.2 hdg (fin 101 1 .boolean _ _ (by decide) rfl (fun _ => rfl) k)
        | exact va_newa hexec hb (hts _ (e_w_in hz.2.2.1)) rfl hK hP hD hS hA (a0 := (nn.toNatClampNeg, .inl (fun _ => 0))) (fun _ => rfl) hneg rfl (Nat.le_trans (Nat.mul_le_mul_left _ (by decide)) hnb) hroom.1 hroom.2 hdg (fin 102 2 .char _ _ (by decide) rfl (fun _ => rfl) k)
        | exact va_newa hexec hb (hts _ (e_w_in hz.2.2.2.1)) rfl hK hP hD hS hA (a0 := (nn.toNatClampNeg, .inr (.inl (fun _ => 0)))) (fun _ => rfl) hneg rfl (Nat.le_trans (Nat.mul_le_mul_left _ (by decide)) hnb) hroom.1 hroom.2 hdg (fin 103 3 .long _ _ (by decide) rfl (fun _ => rfl) k)
    · cases h
  · rename_i ix nn st0
    split at h
    · rename_i r hr
      split at h
      · rename_i hn
        cases h
        obtain ⟨hc, hn0, hnb, hnx⟩ := hn
        obtain ⟨hm, rfl⟩ := e_find hr
        have h1 := List.all_eq_true.mp (List.all_eq_true.mp e_KL_ok own (List.mem_range.mpr ho)) r hm
        rw [e1, e2] at hroom k
        have hneg : ¬ nn < 0 := Int32.not_lt.mpr hn0
        have fin : ∀ (kd t0 : Nat) (C : String), 100 ≤ kd → (e_tys cA)[t0]? = some (cA kd, .object C) → (∀ ad', e_pl ad' kd (fun _ => .null) = .inr (.inr (.inr (.inr (fun _ => none))))) →
            (∀ ad' H' locs', e_ag (e_n hp) ad ad' → va_P D vwCl (e_wd cA ad' (e_new hp kd nn.toNatClampNeg nn.toNatClampNeg)) H' → va_D A (e_wd cA ad' (e_new hp kd nn.toNatClampNeg nn.toNatClampNeg)) → va_S A s.heap H' locs' → W p l e R s m args below meth c H' locs' (cells + 1) (slots + nn.toNatClampNeg) Q (F0 m (pc + 3) ls ((.ref (e_n hp) :: st0).map (e_rl ad')))) →
            ∀ (q : Nat) (c' : ClassId) (H1 : Heap), va_K D vwCl (e_tys cA ++ [(c', .object C)]) s → va_P D vwCl (e_wd cA ad hp ++ [(q, .inl (c', nn.toNatClampNeg, .inr (.inr (.inr (.inr (fun _ => none))))))]) H1 → va_D A (e_wd cA ad hp ++ [(q, .inl (c', nn.toNatClampNeg, .inr (.inr (.inr (.inr (fun _ => none))))))]) → va_S A s.heap H1 locs →
            W p l e R s m args below meth c H1 locs (cells + 1) (slots + nn.toNatClampNeg) Q (F0 m (pc + 3) ls (.ref q :: st0.map (e_rl ad))) := by
          intro kd t0 C hkd ht0 hpl kk q c' H1 hK' a b c
          have hc := e_cAu ht0 hK'
          rw [hc] at a b
          have hag : e_ag (e_n hp) ad (e_adn ad (e_n hp) q) := e_adn_ag hnx
          have h9 : e_wd cA (e_adn ad (e_n hp) q) (e_new hp kd nn.toNatClampNeg nn.toNatClampNeg) = e_wd cA ad hp ++ [(q, .inl (cA kd, nn.toNatClampNeg, .inr (.inr (.inr (.inr (fun _ => none))))))] := e_wd_new hag hwh ((e_ent_a (e_nd_new hp _ _ _).1 hkd).trans (by
            rw [(e_nd_new hp _ _ _).2.2, (e_nd_new hp _ _ _).2.1, e3, hpl]))
          have k9 := kk (e_adn ad (e_n hp) q) H1 locs hag (by rw [h9]; exact a) (by rw [h9]; exact b) c
          rw [List.map_cons, hag.map (fun v hv => hst v (List.mem_cons_of_mem _ hv))] at k9
          have e6 : e_rl (e_adn ad (e_n hp) q) (.ref (e_n hp)) = .ref q := congrArg Value.ref (e3 q)
          rw [e6] at k9
          exact k9
        rcases hc with hc | hc
        · rw [if_pos hc] at k
          have h2 := hts _ (e_w_in h1)
          rw [hc] at h2
          exact va_newq hexec hb hown h2 hAO.2 hK hP hD hS hA hneg rfl (by omega) hroom.1 hroom.2 hdg (fin 106 6 _ (by decide) rfl (fun _ => rfl) k)
        · rw [if_neg (by omega)] at k
          have h2 := hts _ (e_w_in h1)
          rw [hc] at h2
          exact va_newq hexec hb hown h2 hAO.1 hK hP hD hS hA hneg rfl (by omega) hroom.1 hroom.2 hdg (fin 105 5 _ (by decide) rfl (fun _ => rfl) k)
      · cases h
    · cases h
  · cases h
end e_hs2
