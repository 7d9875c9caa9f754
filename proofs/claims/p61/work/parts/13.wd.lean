/-! 13: the abstract heap as a world of the machine; the steps on the heap -/
def e_fl (own ix : Nat) : Option (Nat × Nat × Nat × Nat × Nat) := (e_FL own).find? (fun r => r.1 == ix)
def e_cl2 (own ix : Nat) : Option (Nat × Nat × Nat × Nat) := (e_CL own).find? (fun r => r.1 == ix)
def e_nl (own ix : Nat) : Option (Nat × Nat × Nat) := (e_NL own).find? (fun r => r.1 == ix)
def e_kl (own ix : Nat) : Option (Nat × Nat × Nat) := (e_KL own).find? (fun r => r.1 == ix)
def e_ki (own ix : Nat) : Option (Nat × Int32 × Nat) := (e_KI own).find? (fun r => r.1 == ix)
def e_kj (own ix : Nat) : Option (Nat × Int64 × Nat) := (e_KJ own).find? (fun r => r.1 == ix)
def e_sl (own ix : Nat) : Option (Nat × Nat × Nat) := (e_SL own).find? (fun r => r.1 == ix)
theorem e_find {α : Type} {l : List (Nat × α)} {ix : Nat} {r : Nat × α} (h : l.find? (fun r => r.1 == ix) = some r) : r ∈ l ∧ r.1 = ix := ⟨List.mem_of_find?_eq_some h, by have := List.find?_some h; exact beq_iff_eq.mp this⟩
def e_in (i : Int32) (n : Nat) : Bool := decide (0 ≤ i ∧ i.toNatClampNeg < n)
theorem e_in_of {i : Int32} {n : Nat} (h : e_in i n = true) : vp_in i n := by
  have h := of_decide_eq_true h
  intro h2
  rcases h2 with h2 | h2
  · exact absurd h.1 (Int32.not_le.mpr h2)
  · omega
/-- given objects: their lengths and ints -/
abbrev e_XT : Type := Nat → Nat × (Nat → Int32)
def e_hA (own : Nat) (ini : Bool) (i : Instr) (len : Nat) (st : List Value) (h : e_Hp) : Option (List Value × e_Hp) := match i, len, st with
  | .getfield ix, 3, .ref a :: st => match e_fl own ix with
    | some r => if a < e_n h ∧ e_kd h a = r.2.1 then some (e_rd (e_cY r.2.1 r.2.2.1) (e_v h a r.2.2.1) :: st, h) else none
    | none => none
  | .putfield ix, 3, v :: .ref a :: st => match e_fl own ix with
    | some r => if a < e_n h ∧ e_kd h a = r.2.1 ∧ e_ck (e_cY r.2.1 r.2.2.1) v = true ∧ ((e_cT r.2.1 r.2.2.1).2.2.2 = false ∨ (ini = true ∧ r.2.1 = own ∧ r.2.2.2.2 = 0)) then some (st, e_set h a r.2.2.1 v) else none
    | none => none
  | _, _, _ => none
def e_hB (X : e_XT) (i : Instr) (len : Nat) (st : List Value) (h : e_Hp) : Option (List Value × e_Hp) := match i, len, st with
  | .iaload, 1, .int i :: .ref a :: st => if a < e_n h then (if e_kd h a = 100 ∧ e_in i (e_ln h a) = true then some (.int (e_toI (e_v h a i.toNatClampNeg)) :: st, h) else none) else if e_xb ≤ a ∧ a < e_xb + 8 ∧ e_in i (X (a - e_xb)).1 = true then some (.int ((X (a - e_xb)).2 i.toNatClampNeg) :: st, h) else none
  | .baload, 1, .int i :: .ref a :: st => if a < e_n h ∧ e_kd h a = 101 ∧ e_in i (e_ln h a) = true then some (.int (e_toI (e_v h a i.toNatClampNeg)) :: st, h) else none
  | .caload, 1, .int i :: .ref a :: st => if a < e_n h ∧ e_kd h a = 102 ∧ e_in i (e_ln h a) = true then some (.int (e_toI (e_v h a i.toNatClampNeg)) :: st, h) else none
  | .laload, 1, .int i :: .ref a :: st => if a < e_n h ∧ e_kd h a = 103 ∧ e_in i (e_ln h a) = true then some (.long (e_toJ (e_v h a i.toNatClampNeg)) :: st, h) else none
  | .aaload, 1, .int i :: .ref a :: st => if a < e_n h ∧ (e_kd h a = 105 ∨ e_kd h a = 106) ∧ e_in i (e_ln h a) = true then some (va_rf (e_toO (e_v h a i.toNatClampNeg)) :: st, h) else none
  | _, _, _ => none
def e_ob (ci : Nat) : Bool := match e_NW[ci]? with
  | some q => decide (q.2.2.2 ≠ 0)
  | none => false
def e_hC (i : Instr) (len : Nat) (st : List Value) (h : e_Hp) : Option (List Value × e_Hp) := match i, len, st with
  | .iastore, 1, .int x :: .int i :: .ref a :: st => if a < e_n h ∧ e_kd h a = 100 ∧ e_in i (e_ln h a) = true then some (st, e_set h a i.toNatClampNeg (.int x)) else none
  | .bastore, 1, .int x :: .int i :: .ref a :: st => if a < e_n h ∧ e_kd h a = 101 ∧ e_in i (e_ln h a) = true then some (st, e_set h a i.toNatClampNeg (.int (vp_nar .boolean x))) else none
  | .castore, 1, .int x :: .int i :: .ref a :: st => if a < e_n h ∧ e_kd h a = 102 ∧ e_in i (e_ln h a) = true then some (st, e_set h a i.toNatClampNeg (.int (vp_nar .char x))) else none
  | .lastore, 1, .long x :: .int i :: .ref a :: st => if a < e_n h ∧ e_kd h a = 103 ∧ e_in i (e_ln h a) = true then some (st, e_set h a i.toNatClampNeg (.long x)) else none
  | .aastore, 1, .null :: .int i :: .ref a :: st => if a < e_n h ∧ (e_kd h a = 105 ∨ e_kd h a = 106) ∧ e_in i (e_ln h a) = true then some (st, e_set h a i.toNatClampNeg .null) else none
  | .aastore, 1, .ref v :: .int i :: .ref a :: st => if a < e_n h ∧ v < e_n h ∧ ((e_kd h a = 106 ∧ e_kd h v = 10) ∨ (e_kd h a = 105 ∧ e_kd h v < 21 ∧ e_ob (e_kd h v) = true)) ∧ e_in i (e_ln h a) = true then some (st, e_set h a i.toNatClampNeg (.ref v)) else none
  | _, _, _ => none
def e_at (t : ArrayType) : Nat := match t with
  | .int => 100
  | .boolean => 101
  | .char => 102
  | .long => 103
  | _ => 0
def e_hD (own : Nat) (i : Instr) (len : Nat) (st : List Value) (h : e_Hp) : Option (List Value × e_Hp) := match i, len, st with
  | .new ix, 3, st => match e_nl own ix with
    | some r => if e_n h < e_xb then some (.ref (e_n h) :: st, e_new h r.2.1 0 (e_cF r.2.1)) else none
    | none => none
  | .newarray t, 2, .int n :: st => if 100 ≤ e_at t ∧ 0 ≤ n ∧ n.toNatClampNeg * 8 ≤ 536870912 ∧ e_n h < e_xb then some (.ref (e_n h) :: st, e_new h (e_at t) n.toNatClampNeg n.toNatClampNeg) else none
  | .anewarray ix, 3, .int n :: st => match e_kl own ix with
    | some r => if (r.2.1 = 10 ∨ r.2.1 = 24) ∧ 0 ≤ n ∧ n.toNatClampNeg * 8 ≤ 536870912 ∧ e_n h < e_xb then some (.ref (e_n h) :: st, e_new h (if r.2.1 = 10 then 106 else 105) n.toNatClampNeg n.toNatClampNeg) else none
    | none => none
  | _, _, _ => none
def e_hE (X : e_XT) (own : Nat) (i : Instr) (len : Nat) (st : List Value) (h : e_Hp) : Option (List Value × e_Hp) := match i, len, st with
  | .arraylength, 1, .ref a :: st => if a < e_n h then (if 100 ≤ e_kd h a ∧ e_kd h a ≤ 106 then some (.int (Int32.ofNat (e_ln h a)) :: st, h) else none) else if e_xb ≤ a ∧ a < e_xb + 9 then some (.int (Int32.ofNat (X (a - e_xb)).1) :: st, h) else none
  | .checkcast ix, 3, .ref a :: st => match e_kl own ix with
    | some r => if a < e_n h ∧ e_kd h a = r.2.1 ∧ r.2.1 < 21 then some (.ref a :: st, h) else none
    | none => none
  | .checkcast _, 3, .null :: st => some (.null :: st, h)
  | .getstatic ix, 3, st => match e_sl own ix with
    | some r => some (.ref (e_xb + r.2.1) :: st, h)
    | none => none
  | .ldc ix, 2, st => match e_ki own ix with
    | some r => some (.int r.2.1 :: st, h)
    | none => none
  | .ldc_w ix, 3, st => match e_ki own ix with
    | some r => some (.int r.2.1 :: st, h)
    | none => none
  | .ldc2_w ix, 3, st => match e_kj own ix with
    | some r => some (.long r.2.1 :: st, h)
    | none => none
  | _, _, _ => none
def e_hop (X : e_XT) (own : Nat) (ini : Bool) (i : Instr) (len : Nat) (st : List Value) (h : e_Hp) : Option (List Value × e_Hp) := match e_hA own ini i len st h with
  | some r => some r
  | none => match e_hB X i len st h with
    | some r => some r
    | none => match e_hC i len st h with
      | some r => some r
      | none => match e_hD own i len st h with
        | some r => some r
        | none => e_hE X own i len st h
/-! the world of an abstract heap -/
def e_pl (ad : Nat → Nat) (kd : Nat) (vs : Nat → Value) : (Nat → Int32) ⊕ (Nat → Int64) ⊕ (Nat → UInt32) ⊕ (Nat → UInt64) ⊕ (Nat → Option Nat) := match kd with
  | 103 => .inr (.inl (fun i => e_toJ (vs i)))
  | 104 => .inr (.inr (.inr (.inl (fun i => e_toD (vs i)))))
  | 105 => .inr (.inr (.inr (.inr (fun i => (e_toO (vs i)).map ad))))
  | 106 => .inr (.inr (.inr (.inr (fun i => (e_toO (vs i)).map ad))))
  | _ => .inl (fun i => e_toI (vs i))
def e_fs (ad : Nat → Nat) (ci : Nat) (vs : Nat → Value) : List Value := (List.range (e_cF ci)).map (fun k => e_rl ad (e_rd (e_cY ci k) (vs k)))
def e_ent (cA : Nat → ClassId) (ad : Nat → Nat) (h : e_Hp) (k : Nat) : Nat × va_E := (ad k, if e_kd h k < 100 then .inr (e_kd h k, e_fs ad (e_kd h k) (e_v h k)) else .inl (cA (e_kd h k), e_ln h k, e_pl ad (e_kd h k) (e_v h k)))
def e_wd (cA : Nat → ClassId) (ad : Nat → Nat) (h : e_Hp) : va_W := (List.range (e_n h)).map (e_ent cA ad h)
def e_tys (cA : Nat → ClassId) : List (ClassId × FieldType) := [(cA 100, .int), (cA 101, .boolean), (cA 102, .char), (cA 103, .long), (cA 104, .byte), (cA 105, .object "java/lang/Object"), (cA 106, .object "Rankhall$Pipe")]
def e_ag (n : Nat) (ad ad' : Nat → Nat) : Prop := ∀ k : Nat, k < n ∨ e_xb ≤ k → ad' k = ad k
/-- all that is stored names objects that are made, or given ones -/
def e_wh (h : e_Hp) : Prop := ∀ k i : Nat, k < e_n h → e_okv (e_n h) (e_v h k i)
section e_wdl
variable {cA : Nat → ClassId} {ad ad' : Nat → Nat} {h : e_Hp} {n a i k kd ln sl : Nat} {v : Value} {ll : e_LL} {st : List Value}
theorem e_ag.rfl' : e_ag n ad ad := fun _ _ => rfl
theorem e_ag.trans {n' : Nat} {ad'' : Nat → Nat} (h1 : e_ag n ad ad') (h2 : e_ag n' ad' ad'') (hn : n ≤ n') : e_ag n ad ad'' := fun k hk => (h2 k (hk.elim (fun h => Or.inl (by omega)) Or.inr)).trans (h1 k hk)
theorem e_ag.rl (h : e_ag n ad ad') (hv : e_okv n v) : e_rl ad' v = e_rl ad v := by
  cases v with
  | ref k => show Value.ref (ad' k) = .ref (ad k); rw [h k (hv k rfl)]
  | _ => rfl
theorem e_ag.LH {ls : Array Slot} {nL : Nat} (h : e_ag n ad ad') (hw : e_wfs n ll st) (hl : e_LH ad ls nL ll) : e_LH ad' ls nL ll := ⟨hl.1, hl.2.1, hl.2.2.1, fun i v hv => by rw [h.rl (hw.2 i v hv)]; exact hl.2.2.2 i v hv⟩
theorem e_ag.map (h : e_ag n ad ad') (hw : ∀ v ∈ st, e_okv n v) : st.map (e_rl ad') = st.map (e_rl ad) := List.map_congr_left (fun v hv => h.rl (hw v hv))
theorem e_okv.rf (o : Option Nat) (h : ∀ k, o = some k → k < n ∨ e_xb ≤ k) : e_okv n (va_rf o) := by
  intro k hk
  cases o with
  | none => cases hk
  | some q0 => cases hk; exact h _ rfl
theorem e_okv.toO (hv : e_okv n v) : ∀ k, e_toO v = some k → k < n ∨ e_xb ≤ k := by
  intro k hk
  unfold e_toO at hk
  split at hk
  · cases hk; exact hv k rfl
  · cases hk
theorem e_okv.rd (ty : FieldType) (hv : e_okv n v) : e_okv n (e_rd ty v) := by
  unfold e_rd
  split
  · exact e_okv.long
  · exact e_okv.float
  · exact e_okv.double
  · exact e_okv.rf _ hv.toO
  · exact e_okv.rf _ hv.toO
  · exact e_okv.int
theorem e_ck_rd {ty : FieldType} (h : e_ck ty v = true) : e_rd ty v = v := by
  unfold e_ck at h
  split at h <;> first | rfl | cases h
theorem e_wd_len : (e_wd cA ad h).length = e_n h := by unfold e_wd; rw [List.length_map, List.length_range]
theorem e_wd_get (hk : k < e_n h) : (e_wd cA ad h)[k]? = some (e_ent cA ad h k) := by
  unfold e_wd
  rw [List.getElem?_map, List.getElem?_range hk]; rfl
theorem e_n_set : e_n (e_set h a i v) = e_n h := rfl
theorem e_ent_ne (hk : k ≠ a) : e_ent cA ad (e_set h a i v) k = e_ent cA ad h k := by
  have e : e_v (e_set h a i v) k = e_v h k := by unfold e_v e_set; funext j; simp only [if_neg hk]
  unfold e_ent
  rw [e]; rfl
theorem e_wd_set (ha : a < e_n h) {q : Nat × va_E} (hq : e_ent cA ad (e_set h a i v) a = q) : e_wd cA ad (e_set h a i v) = (e_wd cA ad h).set a q := by
  apply List.ext_getElem?
  intro k
  rw [List.getElem?_set]
  by_cases hk : k < e_n h
  · rw [e_wd_get (h := e_set h a i v) hk]
    by_cases e : a = k
    · subst e; rw [if_pos rfl, if_pos (by rw [e_wd_len]; exact ha), hq]
    · rw [if_neg e, e_wd_get hk, e_ent_ne (fun x => e x.symm)]
  · have h1 : (e_wd cA ad (e_set h a i v))[k]? = none := List.getElem?_eq_none (by rw [e_wd_len]; exact Nat.le_of_not_lt hk)
    have e : ¬ a = k := fun e => hk (by rw [← e]; exact ha)
    rw [h1, if_neg e]
    exact (List.getElem?_eq_none (by rw [e_wd_len]; exact Nat.le_of_not_lt hk)).symm
theorem e_wh.set (hw : e_wh h) (hv : e_okv (e_n h) v) : e_wh (e_set h a i v) := by
  intro k j hk
  show e_okv (e_n h) ((if k = a then (fun i' => if i' = i then v else h.2.2 k i') else h.2.2 k) j)
  by_cases e : k = a
  · rw [if_pos e]
    show e_okv (e_n h) (if j = i then v else h.2.2 k j)
    by_cases e2 : j = i
    · rw [if_pos e2]; exact hv
    · rw [if_neg e2]; exact hw k j hk
  · rw [if_neg e]; exact hw k j hk
theorem e_v_new_ne (hk : k ≠ e_n h) : e_v (e_new h kd ln sl) k = e_v h k := by unfold e_v e_new; funext j; simp only [if_neg (show ¬ k = h.1.1 from hk)]
theorem e_wh.new (hw : e_wh h) : e_wh (e_new h kd ln sl) := by
  intro k j hk
  have hk : k < e_n h + 1 := hk
  show e_okv (e_n h + 1) (e_v (e_new h kd ln sl) k j)
  by_cases e : k = e_n h
  · have e2 : e_v (e_new h kd ln sl) k j = .null := by
      unfold e_v e_new
      simp only [if_pos (show k = h.1.1 from e)]
    rw [e2]; exact e_okv.null
  · rw [e_v_new_ne e]
    exact (hw k j (by omega)).mono (Nat.le_succ _)
theorem e_pl_ag (hag : e_ag n ad ad') {vs : Nat → Value} (hv : ∀ i, e_okv n (vs i)) : e_pl ad' kd vs = e_pl ad kd vs := by
  have e : (fun i => (e_toO (vs i)).map ad') = (fun i => (e_toO (vs i)).map ad) := by
    funext i
    cases ho : e_toO (vs i) with
    | none => rfl
    | some k => show some (ad' k) = some (ad k); rw [hag k ((hv i).toO k ho)]
  unfold e_pl
  split
  · rfl
  · rfl
  · rw [e]
  · rw [e]
  · rfl
theorem e_ent_ag (hag : e_ag (e_n h) ad ad') (hw : e_wh h) (hk : k < e_n h) : e_ent cA ad' h k = e_ent cA ad h k := by
  unfold e_ent
  rw [hag k (Or.inl hk), e_pl_ag hag (fun i => hw k i hk)]
  have e : e_fs ad' (e_kd h k) (e_v h k) = e_fs ad (e_kd h k) (e_v h k) := List.map_congr_left (fun j _ => hag.rl ((hw k j hk).rd _))
  rw [e]
theorem e_wd_ag (hag : e_ag (e_n h) ad ad') (hw : e_wh h) : e_wd cA ad' h = e_wd cA ad h := by
  unfold e_wd
  exact List.map_congr_left (fun k hk => e_ent_ag hag hw (List.mem_range.mp hk))
theorem e_wd_new (hag : e_ag (e_n h) ad ad') (hw : e_wh h) {q : Nat × va_E} (hq : e_ent cA ad' (e_new h kd ln sl) (e_n h) = q) : e_wd cA ad' (e_new h kd ln sl) = e_wd cA ad h ++ [q] := by
  rw [← e_wd_ag hag hw]
  unfold e_wd
  show (List.range (e_n h + 1)).map _ = _
  rw [List.range_succ, List.map_append]
  congr 1
  · apply List.map_congr_left
    intro k hk
    have hk := List.mem_range.mp hk
    have e : k ≠ e_n h := by omega
    unfold e_ent
    have e1 : e_kd (e_new h kd ln sl) k = e_kd h k := by unfold e_kd e_new; simp only [if_neg (show ¬ k = h.1.1 from e)]
    have e2 : e_ln (e_new h kd ln sl) k = e_ln h k := by unfold e_ln e_new; simp only [if_neg (show ¬ k = h.1.1 from e)]
    rw [e1, e2, e_v_new_ne e]
  · show [e_ent cA ad' (e_new h kd ln sl) (e_n h)] = [q]
    rw [hq]
theorem e_fs_get (ci : Nat) (vs : Nat → Value) (hk : k < e_cF ci) : (e_fs ad ci vs)[k]? = some (e_rl ad (e_rd (e_cY ci k) (vs k))) := by
  unfold e_fs
  rw [List.getElem?_map, List.getElem?_range hk]; rfl
theorem e_fs_len (ci : Nat) (vs : Nat → Value) : (e_fs ad ci vs).length = e_cF ci := by unfold e_fs; rw [List.length_map, List.length_range]
theorem e_fs_set (ci : Nat) (vs : Nat → Value) (hk : k < e_cF ci) (hc : e_ck (e_cY ci k) v = true) : e_fs ad ci (fun j => if j = k then v else vs j) = (e_fs ad ci vs).set k (e_rl ad v) := by
  apply List.ext_getElem?
  intro j
  rw [List.getElem?_set]
  by_cases hj : j < e_cF ci
  · rw [e_fs_get ci _ hj]
    by_cases e : k = j
    · subst e; rw [if_pos rfl, if_pos rfl, if_pos (by rw [e_fs_len]; exact hk), e_ck_rd hc]
    · rw [if_neg e, e_fs_get ci _ hj, if_neg (fun x => e x.symm)]
  · have e : ¬ k = j := fun e => hj (by rw [← e]; exact hk)
    rw [if_neg e, List.getElem?_eq_none (by rw [e_fs_len]; exact Nat.le_of_not_lt hj), List.getElem?_eq_none (by rw [e_fs_len]; exact Nat.le_of_not_lt hj)]
end e_wdl
