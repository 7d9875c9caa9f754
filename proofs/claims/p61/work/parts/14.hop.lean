/-! 14: soundness of the steps on the heap -/
theorem e_vw : ∀ ci, ci < 21 → vwCl[ci]? = some (e_cn ci, e_cT ci, e_cF ci)
  | 0, _ => rfl
  | 1, _ => rfl
  | 2, _ => rfl
  | 3, _ => rfl
  | 4, _ => rfl
  | 5, _ => rfl
  | 6, _ => rfl
  | 7, _ => rfl
  | 8, _ => rfl
  | 9, _ => rfl
  | 10, _ => rfl
  | 11, _ => rfl
  | 12, _ => rfl
  | 13, _ => rfl
  | 14, _ => rfl
  | 15, _ => rfl
  | 16, _ => rfl
  | 17, _ => rfl
  | 18, _ => rfl
  | 19, _ => rfl
  | 20, _ => rfl
  | n + 21, h => absurd h (by omega)
theorem e_ty : ∀ ci, ci < 21 → ∀ k, k < e_cF ci → parseFieldDescriptor (e_cT ci k).2.2.1 = some (e_cY ci k)
  | 0, _ => tyJx00060_ok
  | 1, _ => tyJx00060_ok
  | 2, _ => tyJx00060_ok
  | 3, _ => tyJx4a65c_ok
  | 4, _ => tyX0_ok
  | 5, _ => tyX1_ok
  | 6, _ => tyX2_ok
  | 7, _ => tyX3_ok
  | 8, _ => tyX4_ok
  | 9, _ => tyX5_ok
  | 10, _ => tyX6_ok
  | 11, _ => tyX7_ok
  | 12, _ => tyX8_ok
  | 13, _ => tyX9_ok
  | 14, _ => tyX10_ok
  | 15, _ => tyX11_ok
  | 16, _ => tyJx00060_ok
  | 17, _ => tyJx00060_ok
  | 18, _ => tyJx00060_ok
  | 19, _ => tyJx00060_ok
  | 20, _ => tyJx00060_ok
  | n + 21, h => absurd h (by omega)
theorem e_nm : ∀ ci, ci < 21 → ∀ a, a < e_cF ci → ∀ b, b < e_cF ci → a ≠ b → (e_cT ci a).2.1 ≠ (e_cT ci b).2.1
  | 0, _ => nmJx00060
  | 1, _ => nmJx00060
  | 2, _ => nmJx00060
  | 3, _ => nmJx4a65c
  | 4, _ => nmX0
  | 5, _ => nmX1
  | 6, _ => nmX2
  | 7, _ => nmX3
  | 8, _ => nmX4
  | 9, _ => nmX5
  | 10, _ => nmX6
  | 11, _ => nmX7
  | 12, _ => nmX8
  | 13, _ => nmX9
  | 14, _ => nmX10
  | 15, _ => nmX11
  | 16, _ => nmJx00060
  | 17, _ => nmJx00060
  | 18, _ => nmJx00060
  | 19, _ => nmJx00060
  | 20, _ => nmJx00060
  | n + 21, h => absurd h (by omega)
theorem e_uw {ci : Nat} (h : ci < 21) : ∀ w ∈ u_ws (e_cn ci) (e_cT ci) (e_cF ci), w ∈ e_tt := by
  intro w hw
  obtain ⟨k, hk, rfl⟩ := List.mem_map.mp hw
  have h1 := List.all_eq_true.mp e_UW_ok ci (List.mem_range.mpr h)
  unfold e_UWck at h1
  split at h1
  · rw [Bool.and_eq_true] at h1
    have h2 := List.all_eq_true.mp h1.2 k hk
    split at h2
    · exact e_w_in h2
    · cases h2
  · cases h1
theorem e_ch (x : Int32) : 0 ≤ (x.toUInt32 % 65536).toInt32 ∧ (x.toUInt32 % 65536).toInt32 ≤ 65535 := by
  have h : (x.toUInt32 % 65536).toNat < 65536 := by rw [UInt32.toNat_mod]; exact Nat.mod_lt _ (by decide)
  have e : ((x.toUInt32 % 65536).toInt32).toInt = ((x.toUInt32 % 65536).toNat : Int) := by
    show (x.toUInt32 % 65536).toBitVec.toInt = _
    rw [BitVec.toInt_eq_toNat_of_lt]
    · rfl
    · show 2 * (x.toUInt32 % 65536).toNat < 2 ^ 32
      omega
  have e2 : (65535 : Int32).toInt = 65535 := by decide
  exact ⟨Int32.le_iff_toInt_le.mpr (by rw [e]; show (0 : Int) ≤ _; omega), Int32.le_iff_toInt_le.mpr (by rw [e, e2]; omega)⟩
theorem e_ck_nar {ad : Nat → Nat} {ty : FieldType} {v : Value} (h : e_ck ty v = true) : narrow ty (e_rl ad v) = e_rl ad v ∧ fits ty (e_rl ad v) = true := by
  unfold e_ck at h
  split at h
  · exact ⟨rfl, rfl⟩
  · rcases of_decide_eq_true h with h | h <;> subst h <;> exact ⟨rfl, rfl⟩
  · rename_i x
    have h := of_decide_eq_true h
    have e : narrow .char (.int x) = .int x := by
      have e1 : narrow .char (.int x) = .int (vp_nar .char x) := rfl
      rw [e1, h]
    refine ⟨e, ?_⟩
    show fits .char (.int x) = true
    rw [← e]
    simp only [fits, narrow, decide_eq_true_eq, Bool.and_eq_true]
    exact e_ch x
  · exact ⟨rfl, rfl⟩
  · exact ⟨rfl, rfl⟩
  · exact ⟨rfl, rfl⟩
  · exact ⟨rfl, rfl⟩
  · exact ⟨rfl, rfl⟩
  · exact ⟨rfl, rfl⟩
  · cases h
theorem e_fl_ok {own ix : Nat} {r : Nat × Nat × Nat × Nat × Nat} (hown : own < 33) (h : e_fl own ix = some r) : r.2.1 < 21 ∧ r.2.2.1 < e_cF r.2.1 ∧ (e_cT r.2.1 r.2.2.1).1 = e_cn r.2.1 ∧
    ((Cond.fieldLink (e_cn own) ix (e_cn r.2.1) (e_cT r.2.1 r.2.2.1).2.1 (e_cT r.2.1 r.2.2.1).2.2.1 ∈ e_tt) ∨ (Cond.fieldLinkNest (e_cn own) ix (e_cn r.2.1) (e_cT r.2.1 r.2.2.1).2.1 (e_cT r.2.1 r.2.2.1).2.2.1 (e_ho r.2.2.2.2) ∈ e_nt ∧ ¬ r.2.2.2.2 = 0)) := by
  obtain ⟨hm, rfl⟩ := e_find h
  have h1 := List.all_eq_true.mp (List.all_eq_true.mp e_FL_ok own (List.mem_range.mpr hown)) r hm
  unfold e_FLck at h1
  rw [Bool.and_eq_true, Bool.and_eq_true, Bool.and_eq_true] at h1
  refine ⟨of_decide_eq_true h1.2.1, of_decide_eq_true h1.2.2.1, of_decide_eq_true h1.2.2.2, ?_⟩
  have h2 := h1.1
  unfold e_wg e_FLw at h2
  by_cases e : r.2.2.2.2 = 0
  · rw [if_pos e, if_pos e] at h2; exact Or.inl (e_w_in h2)
  · rw [if_neg e, if_neg e] at h2; exact Or.inr ⟨e_wn_in h2, e⟩
/-- what holds all through a launch: classes, links, given objects -/
def e_Sf (D : va_G) (cA : Nat → ClassId) (X : e_XT) (ex : Nat → Nat) (A : Nat → Prop) (s : State) : Prop :=
  va_K D vwCl (e_tys cA) s ∧ (∀ w ∈ e_nt, va_Nw w s) ∧ (va_AO "java/lang/Object" s ∧ va_AO "Rankhall$Pipe" s) ∧ (∀ x, x < 8 → va_T .int (ex x) (X x).1 (fun j => .int ((X x).2 j)) A s s.heap) ∧
  ((X 8).1 = 0 ∧ va_T (.object "java/lang/Object") (ex 8) 0 (fun _ => .null) A s s.heap) ∧ (∀ x, 1 ≤ x → x ≤ 8 → va_Z (e_sn x).1 (e_sn x).2.1 (e_sn x).2.2.1 (.ref (ex x)) A s s.heap) ∧
  (vx_Zq Bundle.tN "UNASSIGNED_STACK" Bundle.steD A s s.heap ∧ vx_Zq Bundle.tN "SUPPRESSED_SENTINEL" Bundle.listD A s s.heap) ∧ (∀ q ∈ e_TX, ∃ sa : Nat, vk_R "Rankhall" q.1 q.2.1 sa s) ∧ (∀ q, s.heap.size ≤ q → A q)
def e_Cx (own : Nat) (ini : Bool) (D : va_G) (cA : Nat → ClassId) (X : e_XT) (ex : Nat → Nat) (A : Nat → Prop) (p : Program) (s : State) (m : MethodId) (args : Array Value) (meth : Method) (c : Code) (cc : ByteArray) : Prop :=
  p.tables.exec = Jvm.exec ∧ c.code = cc ∧ own < 33 ∧ s.vm.findClass (e_cn own) = some m.cls ∧ (ini = true → meth.name = "<init>") ∧ (∀ w ∈ e_tt, w.before args s = true) ∧ e_Sf D cA X ex A s
section e_hs
variable {p : Program} {l : Launch} {e : Env} {R : Room} {s : State} {m : MethodId} {args : Array Value} {below : List Frame} {meth : Method} {c : Code} {H : Heap} {locs : List Loc} {cells slots : Nat} {Q : State → Prop} {cc : ByteArray} {ad : Nat → Nat} {ls : Array Slot} {pc len own : Nat} {i : Instr} {st st' : List Value} {hp hp' : e_Hp} {ini : Bool} {D : va_G} {cA : Nat → ClassId} {X : e_XT} {ex : Nat → Nat} {A : Nat → Prop}
theorem e_ent_o {a ci : Nat} (hk : e_kd hp a = ci) (hci : ci < 21) : e_ent cA ad hp a = (ad a, .inr (ci, e_fs ad ci (e_v hp a))) := by
  unfold e_ent
  rw [hk, if_pos (by omega)]
theorem e_ent_a {a kd : Nat} (hk : e_kd hp a = kd) (hkd : 100 ≤ kd) : e_ent cA ad hp a = (ad a, .inl (cA kd, e_ln hp a, e_pl ad kd (e_v hp a))) := by
  unfold e_ent
  rw [hk, if_neg (by omega)]
theorem e_v_set (h : e_Hp) (a k : Nat) (v : Value) : e_v (e_set h a k v) a = fun j => if j = k then v else e_v h a j := by
  unfold e_v e_set
  funext j
  simp only [if_true]
theorem e_hA_ok (C : e_Cx own ini D cA X ex A p s m args meth c cc) (h : e_hA own ini i len st hp = some (st', hp')) (hdg : decode cc pc = .ok (i, len)) (hP : va_P D vwCl (e_wd cA ad hp) H) (hD : va_D A (e_wd cA ad hp)) (hS : va_S A s.heap H locs)
    (k : ∀ H' locs', va_P D vwCl (e_wd cA ad hp') H' → va_D A (e_wd cA ad hp') → va_S A s.heap H' locs' → W p l e R s m args below meth c H' locs' cells slots Q (F0 m (pc + len) ls (st'.map (e_rl ad)))) :
    W p l e R s m args below meth c H locs cells slots Q (F0 m pc ls (st.map (e_rl ad))) := by
  obtain ⟨hexec, hb, ho, hown, hini, hts, hK, hnt, -⟩ := C
  unfold e_hA at h
  split at h
  · split at h
    · rename_i r hr
      split at h
      · rename_i hc
        cases h
        obtain ⟨h21, hk, hsm, hl⟩ := e_fl_ok ho hr
        have he : (e_wd cA ad hp)[_]? = some _ := (e_wd_get hc.1).trans (congrArg some (e_ent_o hc.2 h21))
        rcases hl with hl | ⟨hl, hl0⟩
        · exact va_get hexec hb hts (e_uw h21) hown hK hP _ he (e_vw _ h21) _ hk (hts _ hl) (fun x hx => by rw [hsm] at hx; exact hx) (e_fs_get _ _ hk) hdg (k _ _ hP hD hS)
        · exact va_getN hexec hb hts (e_uw h21) hown hK hP _ he (e_vw _ h21) _ hk ((hnt _ hl).use (e_nt_on hl)) (fun x hx => by rw [hsm] at hx; exact hx) (e_fs_get _ _ hk) hdg (k _ _ hP hD hS)
      · cases h
    · cases h
  · split at h
    · rename_i r hr
      split at h
      · rename_i hc
        cases h
        obtain ⟨hlt, hkd, hck, hfin⟩ := hc
        obtain ⟨h21, hk, hsm, hl⟩ := e_fl_ok ho hr
        have he : (e_wd cA ad hp)[_]? = some _ := (e_wd_get hlt).trans (congrArg some (e_ent_o hkd h21))
        have e9 : e_wd cA ad (e_set hp _ r.2.2.1 _) = (e_wd cA ad hp).set _ (ad _, .inr (r.2.1, (e_fs ad r.2.1 (e_v hp _)).set r.2.2.1 (e_rl ad _))) := e_wd_set hlt ((e_ent_o (hp := e_set hp _ _ _) hkd h21).trans (by rw [e_v_set, e_fs_set _ _ hk hck]))
        rw [e9] at k
        rcases hl with hl | ⟨hl, hl0⟩
        · by_cases hf : (e_cT r.2.1 r.2.2.1).2.2.2 = false
          · exact va_put hexec hb hts (e_uw h21) (e_cY r.2.1) (e_ty _ h21) (e_nm _ h21) hown hK hP hD hS _ he (e_vw _ h21) _ hk (hts _ hl) (fun x hx => by rw [hsm] at hx; exact hx) hf (e_ty _ h21 _ hk) (e_ck_nar hck).1 (e_ck_nar hck).2 (by rw [e_fs_len]; exact hk) hdg (fun H1 L1 a b c => k H1 L1 a b c)
          · have hf2 := hfin.resolve_left hf
            exact va_putF hexec hb hts (e_uw h21) (e_cY r.2.1) (e_ty _ h21) (e_nm _ h21) hown hK hP hD hS _ he (e_vw _ h21) _ hk (hts _ hl) (fun x hx => by rw [hsm] at hx; exact hx) (by simpa using hf) (hini hf2.1) (by rw [hsm, hf2.2.1]) (e_ty _ h21 _ hk) (e_ck_nar hck).1 (e_ck_nar hck).2 (by rw [e_fs_len]; exact hk) hdg (fun H1 L1 a b c => k H1 L1 a b c)
        · by_cases hf : (e_cT r.2.1 r.2.2.1).2.2.2 = false
          · exact va_putN hexec hb hts (e_uw h21) (e_cY r.2.1) (e_ty _ h21) (e_nm _ h21) hown hK hP hD hS _ he (e_vw _ h21) _ hk ((hnt _ hl).use (e_nt_on hl)) (fun x hx => by rw [hsm] at hx; exact hx) hf (e_ty _ h21 _ hk) (e_ck_nar hck).1 (e_ck_nar hck).2 (by rw [e_fs_len]; exact hk) hdg (fun H1 L1 a b c => k H1 L1 a b c)
          · exact absurd (hfin.resolve_left hf).2.2 hl0
      · cases h
    · cases h
  · cases h
theorem e_tyk (k : Nat) (h : k < 7) : ∃ ty, (e_tys cA)[k]? = some (cA (100 + k), ty) := by
  match k, h with
  | 0, _ => exact ⟨_, rfl⟩
  | 1, _ => exact ⟨_, rfl⟩
  | 2, _ => exact ⟨_, rfl⟩
  | 3, _ => exact ⟨_, rfl⟩
  | 4, _ => exact ⟨_, rfl⟩
  | 5, _ => exact ⟨_, rfl⟩
  | 6, _ => exact ⟨_, rfl⟩
theorem e_hB_ok (C : e_Cx own ini D cA X ex A p s m args meth c cc) (hex : ∀ x, x < 9 → ad (e_xb + x) = ex x) (h : e_hB X i len st hp = some (st', hp')) (hdg : decode cc pc = .ok (i, len)) (hP : va_P D vwCl (e_wd cA ad hp) H) (hD : va_D A (e_wd cA ad hp)) (hS : va_S A s.heap H locs)
    (k : ∀ H' locs', va_P D vwCl (e_wd cA ad hp') H' → va_D A (e_wd cA ad hp') → va_S A s.heap H' locs' → W p l e R s m args below meth c H' locs' cells slots Q (F0 m (pc + len) ls (st'.map (e_rl ad)))) :
    W p l e R s m args below meth c H locs cells slots Q (F0 m pc ls (st.map (e_rl ad))) := by
  obtain ⟨hexec, hb, ho, hown, hini, hts, hK, hnt, hAO, hX, -⟩ := C
  unfold e_hB at h
  split at h
  · split at h
    · rename_i hlt
      split at h
      · rename_i hc
        cases h
        exact va_iald hexec hb hK hP _ 0 ((e_wd_get hlt).trans (congrArg some (e_ent_a hc.1 (Nat.le_refl _)))) rfl (e_in_of hc.2) hdg (k _ _ hP hD hS)
      · cases h
    · split at h
      · rename_i hlt hc
        cases h
        have e1 : ∀ a : Nat, e_xb ≤ a → a < e_xb + 8 → va_T .int (ad a) (X (a - e_xb)).1 (fun j => .int ((X (a - e_xb)).2 j)) A s s.heap := fun a h1 h2 => by
          have h3 := hX (a - e_xb) (by omega)
          have h4 := hex (a - e_xb) (by omega)
          rw [Nat.add_sub_cancel' h1] at h4
          rw [h4]; exact h3
        exact va_ti hexec hb (e1 _ hc.1 hc.2.1) hS (e_in_of hc.2.2) rfl hdg (k _ _ hP hD hS)
      · cases h
  · split at h
    · rename_i hc
      cases h
      exact va_zald hexec hb hK hP _ 1 ((e_wd_get hc.1).trans (congrArg some (e_ent_a hc.2.1 (by decide)))) rfl (e_in_of hc.2.2) hdg (k _ _ hP hD hS)
    · cases h
  · split at h
    · rename_i hc
      cases h
      exact va_cald hexec hb hK hP _ 2 ((e_wd_get hc.1).trans (congrArg some (e_ent_a hc.2.1 (by decide)))) rfl (e_in_of hc.2.2) hdg (k _ _ hP hD hS)
    · cases h
  · split at h
    · rename_i hc
      cases h
      exact va_lald hexec hb hK hP _ 3 ((e_wd_get hc.1).trans (congrArg some (e_ent_a hc.2.1 (by decide)))) rfl (e_in_of hc.2.2) hdg (k _ _ hP hD hS)
    · cases h
  · split at h
    · rename_i hc
      cases h
      have k9 := k _ _ hP hD hS
      rw [List.map_cons, e_rl_rf] at k9
      rcases hc.2.1 with h5 | h5
      · exact va_aldq hexec hb hK hP _ 5 ((e_wd_get hc.1).trans (congrArg some (e_ent_a h5 (by decide)))) rfl (e_in_of hc.2.2) hdg k9
      · exact va_aldq hexec hb hK hP _ 6 ((e_wd_get hc.1).trans (congrArg some (e_ent_a h5 (by decide)))) rfl (e_in_of hc.2.2) hdg k9
    · cases h
  · cases h
end e_hs
