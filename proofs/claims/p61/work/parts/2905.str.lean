/-! 2905: text constants over the typed picture (printed by wip/p61/mk4.py) -/
section s_str
variable {X : e_XT} {d : Nat} {K : e_KT} {pc ix mi pl : Nat} {ll : e_LL} {st rest As : List Value} {S : e_SS} {Q : e_Rt → e_SS → Prop} {row : e_MT}
theorem w_ldcs {i : Nat} (hi : i < 5) (hK : K.1 = 21) (hdg : decode K.2.2.1 pc = .ok (.ldc (e_st i).1, 2)) (k : s_w X d K (pc + 2) ll (.ref (e_xb + (10 + i)) :: rest) S Q) : s_w X d K pc ll rest S Q := fun h hs => by
  obtain ⟨r, h', S', q, z, c⟩ := k h hs
  exact ⟨r, h', S', q, z, e_J.ldcs hi hK hdg c⟩
theorem w_ldcsw {i : Nat} (hi : i < 5) (hK : K.1 = 21) (hdg : decode K.2.2.1 pc = .ok (.ldc_w (e_st i).1, 3)) (k : s_w X d K (pc + 3) ll (.ref (e_xb + (10 + i)) :: rest) S Q) : s_w X d K pc ll rest S Q := fun h hs => by
  obtain ⟨r, h', S', q, z, c⟩ := k h hs
  exact ⟨r, h', S', q, z, e_J.ldcsw hi hK hdg c⟩
theorem w_ldcd {ix : Nat} {v : UInt64} (hv : (ix = 176 ∧ v = 13858279740860792832) ∨ (ix = 342 ∧ v = 4658815484840378368)) (hK : K.1 = 21) (hdg : decode K.2.2.1 pc = .ok (.ldc2_w ix, 3)) (k : s_w X d K (pc + 3) ll (.double v :: rest) S Q) : s_w X d K pc ll rest S Q := fun h hs => by
  obtain ⟨r, h', S', q, z, c⟩ := k h hs
  exact ⟨r, h', S', q, z, e_J.ldcd hv hK hdg c⟩
theorem w_compact (hK : K.1 = 31) (hdg : decode K.2.2.1 pc = .ok (.getstatic 38, 3)) (k : s_w X d K (pc + 3) ll (.int 1 :: rest) S Q) : s_w X d K pc ll rest S Q := fun h hs => by
  obtain ⟨r, h', S', q, z, c⟩ := k h hs
  exact ⟨r, h', S', q, z, e_J.compact hK hdg c⟩
theorem w_value {i : Nat} (hi : i < 5) (hK : K.1 = 31) (hdg : decode K.2.2.1 pc = .ok (.getfield 9, 3)) (k : s_w X d K (pc + 3) ll (.ref (e_xb + (15 + i)) :: rest) S Q) : s_w X d K pc ll (.ref (e_xb + (10 + i)) :: rest) S Q := fun h hs => by
  obtain ⟨r, h', S', q, z, c⟩ := k h hs
  exact ⟨r, h', S', q, z, e_J.value hi hK hdg c⟩
theorem w_coder {i : Nat} (hi : i < 5) (hK : K.1 = 31) (hdg : decode K.2.2.1 pc = .ok (.getfield 15, 3)) (k : s_w X d K (pc + 3) ll (.int 0 :: rest) S Q) : s_w X d K pc ll (.ref (e_xb + (10 + i)) :: rest) S Q := fun h hs => by
  obtain ⟨r, h', S', q, z, c⟩ := k h hs
  exact ⟨r, h', S', q, z, e_J.coder hi hK hdg c⟩
theorem w_blen {i : Nat} (hi : i < 5) (hdg : decode K.2.2.1 pc = .ok (.arraylength, 1)) (k : s_w X d K (pc + 1) ll (.int (Int32.ofNat (e_SLen.getD i 0)) :: rest) S Q) : s_w X d K pc ll (.ref (e_xb + (15 + i)) :: rest) S Q := fun h hs => by
  obtain ⟨r, h', S', q, z, c⟩ := k h hs
  exact ⟨r, h', S', q, z, e_J.blen hi hdg c⟩
theorem w_sbald {i : Nat} {y : Int32} (hi : i < 5) (hy : e_in y (e_SLen.getD i 0) = true) (hdg : decode K.2.2.1 pc = .ok (.baload, 1)) (k : s_w X d K (pc + 1) ll (.int ((e_SByt.getD i []).getD y.toNatClampNeg 0) :: rest) S Q) : s_w X d K pc ll (.int y :: .ref (e_xb + (15 + i)) :: rest) S Q := fun h hs => by
  obtain ⟨r, h', S', q, z, c⟩ := k h hs
  exact ⟨r, h', S', q, z, e_J.bald hi hy hdg c⟩
/-- a call at a text constant -/
theorem w_callStr {i : Nat} (hi : i < 5) (hd : decode K.2.2.1 pc = .ok (.invokevirtual ix, 3)) (hcl : e_cl2 K.1 ix = some (ix, mi, pl, 0)) (hrow : e_M[mi]? = some row) (hmi : mi < 1000) (hst : row.2.1.2 = false) (hn : As.length = row.2.1.1) (hni : row.1.1.name ≠ "<init>") (hcs : row.1.1.cls = "java/lang/String") (hcat : (rest.map fun v => v.category).sum ≤ 8)
    (hc : s_c X d mi (.ref (e_xb + (10 + i)) :: As) S (fun r S' => s_aft X (d + 1) K pc ll rest Q r S')) : s_w X (d + 1) K pc ll (As.reverse ++ .ref (e_xb + (10 + i)) :: rest) S Q := fun h hs => by
  obtain ⟨r, h1, S1, a, b, c⟩ := hc h hs
  have k := a
  have hcf : e_cf K (.invokevirtual ix) ix row As (e_xb + (10 + i)) (.ref (e_xb + (10 + i)) :: As) (As.reverse ++ .ref (e_xb + (10 + i)) :: rest) rest h := Or.inr (Or.inl ⟨rfl, hst, hni, rfl, rfl, Or.inr ⟨by omega, by omega, hcs⟩⟩)
  cases r with
  | inl v =>
    obtain ⟨r2, h2, S2, q, z, c2⟩ := k h1 b
    exact ⟨r2, h2, S2, q, z, e_J.call c hrow hcl hmi (fun z => absurd rfl z) hcf hn hcat hd c2⟩
  | inr E => exact ⟨.inr E, h1, S1, k.2, b, e_J.callX c hrow hcl hmi hni hcf hn hcat hd k.1⟩
end s_str
