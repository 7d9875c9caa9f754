/-! 28: rows, lists' elements, lengths, casts, constants, over the typed picture -/
theorem e_hopB {X : e_XT} {own : Nat} {ini : Bool} {i : Instr} {len : Nat} {st st' : List Value} {h h1 : e_Hp} (hA : e_hA own ini i len st h = none) (e : e_hB X i len st h = some (st', h1)) : e_hop X own ini i len st h = some (st', h1) := by unfold e_hop; rw [hA, e]
theorem e_hopC {X : e_XT} {own : Nat} {ini : Bool} {i : Instr} {len : Nat} {st st' : List Value} {h h1 : e_Hp} (hA : e_hA own ini i len st h = none) (hB : e_hB X i len st h = none) (e : e_hC i len st h = some (st', h1)) : e_hop X own ini i len st h = some (st', h1) := by unfold e_hop; rw [hA, hB, e]
theorem e_hopD {X : e_XT} {own : Nat} {ini : Bool} {i : Instr} {len : Nat} {st st' : List Value} {h h1 : e_Hp} (hA : e_hA own ini i len st h = none) (hB : e_hB X i len st h = none) (hC : e_hC i len st h = none) (e : e_hD own i len st h = some (st', h1)) : e_hop X own ini i len st h = some (st', h1) := by unfold e_hop; rw [hA, hB, hC, e]
theorem e_hopE {X : e_XT} {own : Nat} {ini : Bool} {i : Instr} {len : Nat} {st st' : List Value} {h h1 : e_Hp} (hA : e_hA own ini i len st h = none) (hB : e_hB X i len st h = none) (hC : e_hC i len st h = none) (hD : e_hD own i len st h = none) (e : e_hE X own i len st h = some (st', h1)) : e_hop X own ini i len st h = some (st', h1) := by unfold e_hop; rw [hA, hB, hC, hD, e]
/-- x is the place n of a row of N -/
def s_ix (x : Int32) (n N : Nat) : Prop := 0 ≤ x ∧ x.toNatClampNeg = n ∧ n < N
theorem s_ix.nI {n N : Nat} (h : n < N) (hN : N ≤ 2147483647) : s_ix (nI n) n N := ⟨nI_pos' (by omega), nI_clamp (by omega), h⟩
theorem s_ix.ein {x : Int32} {n N : Nat} (h : s_ix x n N) : e_in x N = true := decide_eq_true ⟨h.1, by rw [h.2.1]; exact h.2.2⟩
def s_len (S : e_SS) (t j : Nat) : Nat := if (e_T t).2 = 1000000000 then S.1.2.2.1 t j else (e_T t).2
section s_as
variable {X : e_XT} {d : Nat} {K : e_KT} {pc ix t j n W : Nat} {ll : e_LL} {st : List Value} {S : e_SS} {Q : e_Rt → e_SS → Prop} {x y : Int32} {z : Int64}
theorem s_is.len {h : e_Hp} (hs : s_is S h) (hv : s_v S t j) : e_ln h (S.1.1 t j) = s_len S t j := (hs.1.1 t j hv).2.2.2.2
theorem s_is.rdI {h : e_Hp} {F : Nat} (hs : s_is S h) (hF : e_FI F = (t, 0, W)) (hN : F < e_NI) (hW : n < W) (hv : s_v S t j) : e_toI (e_v h (S.1.1 t j) n) = S.2.1 F (j * W + n) := by
  have h2 := hs.1.2.1 F (j * W + n) hN
  rw [hF] at h2
  have e1 : (j * W + n) / W = j := by rw [Nat.mul_comm, Nat.mul_add_div (by omega), Nat.div_eq_of_lt hW, Nat.add_zero]
  have e2 : (j * W + n) % W = n := by rw [Nat.mul_comm, Nat.mul_add_mod, Nat.mod_eq_of_lt hW]
  simp only [e1, e2, Nat.zero_add] at h2
  exact h2 hv
theorem s_is.rdJ {h : e_Hp} {F : Nat} (hs : s_is S h) (hF : e_FJ F = (t, 0, W)) (hN : F < e_NJ) (hW : n < W) (hv : s_v S t j) : e_toJ (e_v h (S.1.1 t j) n) = S.2.2.1 F (j * W + n) := by
  have h2 := hs.1.2.2.1 F (j * W + n) hN
  rw [hF] at h2
  have e1 : (j * W + n) / W = j := by rw [Nat.mul_comm, Nat.mul_add_div (by omega), Nat.div_eq_of_lt hW, Nat.add_zero]
  have e2 : (j * W + n) % W = n := by rw [Nat.mul_comm, Nat.mul_add_mod, Nat.mod_eq_of_lt hW]
  simp only [e1, e2, Nat.zero_add] at h2
  exact h2 hv
theorem s_is.wrI {h : e_Hp} {F : Nat} (hs : s_is S h) (hF : e_FI F = (t, 0, W)) (hN : F < e_NI) (hsz : F ≠ f_l_size) (hW : n < W) (hv : s_v S t j) (y : Int32) : s_is (s_I S F (j * W + n) y) (e_set h (S.1.1 t j) n (.int y)) := by
  have e1 : (j * W + n) / W = j := by rw [Nat.mul_comm, Nat.mul_add_div (by omega), Nat.div_eq_of_lt hW, Nat.add_zero]
  have e2 : (j * W + n) % W = n := by rw [Nat.mul_comm, Nat.mul_add_mod, Nat.mod_eq_of_lt hW]
  have h2 := hs.1.setI (F := F) (i := j * W + n) (x := y) hN (by rw [hF]; show S.1.2.1 t ((j * W + n) / W) = true; rw [e1]; exact hv) hsz
  rw [hF] at h2
  simp only [e1, e2, Nat.zero_add] at h2
  exact ⟨h2, hs.2.1, hs.2.2.set hv⟩
theorem s_is.wrJ {h : e_Hp} {F : Nat} (hs : s_is S h) (hF : e_FJ F = (t, 0, W)) (hN : F < e_NJ) (hW : n < W) (hv : s_v S t j) (y : Int64) : s_is (s_J S F (j * W + n) y) (e_set h (S.1.1 t j) n (.long y)) := by
  have e1 : (j * W + n) / W = j := by rw [Nat.mul_comm, Nat.mul_add_div (by omega), Nat.div_eq_of_lt hW, Nat.add_zero]
  have e2 : (j * W + n) % W = n := by rw [Nat.mul_comm, Nat.mul_add_mod, Nat.mod_eq_of_lt hW]
  have h2 := hs.1.setJ (F := F) (i := j * W + n) (y := y) hN (by rw [hF]; show S.1.2.1 t ((j * W + n) / W) = true; rw [e1]; exact hv)
  rw [hF] at h2
  simp only [e1, e2, Nat.zero_add] at h2
  exact ⟨h2, hs.2.1, hs.2.2.set hv⟩
theorem w_iald (F : Nat) (hd : decode K.2.2.1 pc = .ok (.iaload, 1)) (hF : e_FI F = (t, 0, W)) (hN : F < e_NI) (hT : (e_T t).1 = 100) (hv : s_v S t j) (hx : s_ix x n (s_len S t j)) (hW : n < W) (k : s_w X d K (pc + 1) ll (.int (S.2.1 F (j * W + n)) :: st) S Q) : s_w X d K pc ll (.int x :: .ref (S.1.1 t j) :: st) S Q := by
  refine w_hop hd (fun h hs => ⟨h, e_hopB rfl ?_, hs⟩) k
  obtain ⟨q1, q2, q3, -, q5⟩ := hs.1.1 t j hv
  show (if S.1.1 t j < e_n h then (if e_kd h (S.1.1 t j) = 100 ∧ e_in x (e_ln h (S.1.1 t j)) = true then some (.int (e_toI (e_v h (S.1.1 t j) x.toNatClampNeg)) :: st, h) else none) else _) = _
  rw [if_pos q2, if_pos ⟨q3.trans hT, by rw [hs.len hv]; exact hx.ein⟩, hx.2.1, hs.rdI hF hN hW hv]
theorem w_bald (F : Nat) (hd : decode K.2.2.1 pc = .ok (.baload, 1)) (hF : e_FI F = (t, 0, W)) (hN : F < e_NI) (hT : (e_T t).1 = 101) (hv : s_v S t j) (hx : s_ix x n (s_len S t j)) (hW : n < W) (k : s_w X d K (pc + 1) ll (.int (S.2.1 F (j * W + n)) :: st) S Q) : s_w X d K pc ll (.int x :: .ref (S.1.1 t j) :: st) S Q := by
  refine w_hop hd (fun h hs => ⟨h, e_hopB rfl ?_, hs⟩) k
  obtain ⟨q1, q2, q3, -, q5⟩ := hs.1.1 t j hv
  show (if S.1.1 t j < e_n h ∧ e_kd h (S.1.1 t j) = 101 ∧ e_in x (e_ln h (S.1.1 t j)) = true then some (Value.int (e_toI (e_v h (S.1.1 t j) x.toNatClampNeg)) :: st, h) else none) = _
  rw [if_pos ⟨q2, q3.trans hT, by rw [hs.len hv]; exact hx.ein⟩, hx.2.1, hs.rdI hF hN hW hv]
theorem w_cald (F : Nat) (hd : decode K.2.2.1 pc = .ok (.caload, 1)) (hF : e_FI F = (t, 0, W)) (hN : F < e_NI) (hT : (e_T t).1 = 102) (hv : s_v S t j) (hx : s_ix x n (s_len S t j)) (hW : n < W) (k : s_w X d K (pc + 1) ll (.int (S.2.1 F (j * W + n)) :: st) S Q) : s_w X d K pc ll (.int x :: .ref (S.1.1 t j) :: st) S Q := by
  refine w_hop hd (fun h hs => ⟨h, e_hopB rfl ?_, hs⟩) k
  obtain ⟨q1, q2, q3, -, q5⟩ := hs.1.1 t j hv
  show (if S.1.1 t j < e_n h ∧ e_kd h (S.1.1 t j) = 102 ∧ e_in x (e_ln h (S.1.1 t j)) = true then some (Value.int (e_toI (e_v h (S.1.1 t j) x.toNatClampNeg)) :: st, h) else none) = _
  rw [if_pos ⟨q2, q3.trans hT, by rw [hs.len hv]; exact hx.ein⟩, hx.2.1, hs.rdI hF hN hW hv]
theorem w_lald (F : Nat) (hd : decode K.2.2.1 pc = .ok (.laload, 1)) (hF : e_FJ F = (t, 0, W)) (hN : F < e_NJ) (hT : (e_T t).1 = 103) (hv : s_v S t j) (hx : s_ix x n (s_len S t j)) (hW : n < W) (k : s_w X d K (pc + 1) ll (.long (S.2.2.1 F (j * W + n)) :: st) S Q) : s_w X d K pc ll (.int x :: .ref (S.1.1 t j) :: st) S Q := by
  refine w_hop hd (fun h hs => ⟨h, e_hopB rfl ?_, hs⟩) k
  obtain ⟨q1, q2, q3, -, q5⟩ := hs.1.1 t j hv
  show (if S.1.1 t j < e_n h ∧ e_kd h (S.1.1 t j) = 103 ∧ e_in x (e_ln h (S.1.1 t j)) = true then some (Value.long (e_toJ (e_v h (S.1.1 t j) x.toNatClampNeg)) :: st, h) else none) = _
  rw [if_pos ⟨q2, q3.trans hT, by rw [hs.len hv]; exact hx.ein⟩, hx.2.1, hs.rdJ hF hN hW hv]
theorem w_iast (F : Nat) (hd : decode K.2.2.1 pc = .ok (.iastore, 1)) (hF : e_FI F = (t, 0, W)) (hN : F < e_NI) (hsz : F ≠ f_l_size) (hT : (e_T t).1 = 100) (hv : s_v S t j) (hx : s_ix x n (s_len S t j)) (hW : n < W) (k : s_w X d K (pc + 1) ll st (s_I S F (j * W + n) y) Q) : s_w X d K pc ll (.int y :: .int x :: .ref (S.1.1 t j) :: st) S Q := by
  refine w_hop hd (fun h hs => ⟨e_set h (S.1.1 t j) n (.int y), e_hopC rfl rfl ?_, hs.wrI hF hN hsz hW hv y⟩) k
  obtain ⟨q1, q2, q3, -, q5⟩ := hs.1.1 t j hv
  show (if S.1.1 t j < e_n h ∧ e_kd h (S.1.1 t j) = 100 ∧ e_in x (e_ln h (S.1.1 t j)) = true then some (st, e_set h (S.1.1 t j) x.toNatClampNeg (.int y)) else none) = _
  rw [if_pos ⟨q2, q3.trans hT, by rw [hs.len hv]; exact hx.ein⟩, hx.2.1]
theorem s_bz {y : Int32} (hy : y = 0 ∨ y = 1) : vp_nar .boolean y = y := by rcases hy with rfl | rfl <;> decide
theorem w_bast (F : Nat) (hd : decode K.2.2.1 pc = .ok (.bastore, 1)) (hF : e_FI F = (t, 0, W)) (hN : F < e_NI) (hsz : F ≠ f_l_size) (hT : (e_T t).1 = 101) (hv : s_v S t j) (hx : s_ix x n (s_len S t j)) (hW : n < W) (hy : y = 0 ∨ y = 1) (k : s_w X d K (pc + 1) ll st (s_I S F (j * W + n) y) Q) : s_w X d K pc ll (.int y :: .int x :: .ref (S.1.1 t j) :: st) S Q := by
  refine w_hop hd (fun h hs => ⟨e_set h (S.1.1 t j) n (.int y), e_hopC rfl rfl ?_, hs.wrI hF hN hsz hW hv y⟩) k
  obtain ⟨q1, q2, q3, -, q5⟩ := hs.1.1 t j hv
  show (if S.1.1 t j < e_n h ∧ e_kd h (S.1.1 t j) = 101 ∧ e_in x (e_ln h (S.1.1 t j)) = true then some (st, e_set h (S.1.1 t j) x.toNatClampNeg (.int (vp_nar .boolean y))) else none) = _
  rw [if_pos ⟨q2, q3.trans hT, by rw [hs.len hv]; exact hx.ein⟩, hx.2.1, s_bz hy]
theorem w_cast (F : Nat) (hd : decode K.2.2.1 pc = .ok (.castore, 1)) (hF : e_FI F = (t, 0, W)) (hN : F < e_NI) (hsz : F ≠ f_l_size) (hT : (e_T t).1 = 102) (hv : s_v S t j) (hx : s_ix x n (s_len S t j)) (hW : n < W) (hy : vp_nar .char y = y) (k : s_w X d K (pc + 1) ll st (s_I S F (j * W + n) y) Q) : s_w X d K pc ll (.int y :: .int x :: .ref (S.1.1 t j) :: st) S Q := by
  refine w_hop hd (fun h hs => ⟨e_set h (S.1.1 t j) n (.int y), e_hopC rfl rfl ?_, hs.wrI hF hN hsz hW hv y⟩) k
  obtain ⟨q1, q2, q3, -, q5⟩ := hs.1.1 t j hv
  show (if S.1.1 t j < e_n h ∧ e_kd h (S.1.1 t j) = 102 ∧ e_in x (e_ln h (S.1.1 t j)) = true then some (st, e_set h (S.1.1 t j) x.toNatClampNeg (.int (vp_nar .char y))) else none) = _
  rw [if_pos ⟨q2, q3.trans hT, by rw [hs.len hv]; exact hx.ein⟩, hx.2.1, hy]
theorem w_last (F : Nat) (hd : decode K.2.2.1 pc = .ok (.lastore, 1)) (hF : e_FJ F = (t, 0, W)) (hN : F < e_NJ) (hT : (e_T t).1 = 103) (hv : s_v S t j) (hx : s_ix x n (s_len S t j)) (hW : n < W) (k : s_w X d K (pc + 1) ll st (s_J S F (j * W + n) z) Q) : s_w X d K pc ll (.long z :: .int x :: .ref (S.1.1 t j) :: st) S Q := by
  refine w_hop hd (fun h hs => ⟨e_set h (S.1.1 t j) n (.long z), e_hopC rfl rfl ?_, hs.wrJ hF hN hW hv z⟩) k
  obtain ⟨q1, q2, q3, -, q5⟩ := hs.1.1 t j hv
  show (if S.1.1 t j < e_n h ∧ e_kd h (S.1.1 t j) = 103 ∧ e_in x (e_ln h (S.1.1 t j)) = true then some (st, e_set h (S.1.1 t j) x.toNatClampNeg (.long z)) else none) = _
  rw [if_pos ⟨q2, q3.trans hT, by rw [hs.len hv]; exact hx.ein⟩, hx.2.1]
/-- the script, and the classes' constant rows -/
theorem w_xald {g : Nat} (hd : decode K.2.2.1 pc = .ok (.iaload, 1)) (hg : g < 8) (hx : s_ix x n (X g).1) (hN : S.2.2.2.1.1 < e_xb) (k : s_w X d K (pc + 1) ll (.int ((X g).2 n) :: st) S Q) : s_w X d K pc ll (.int x :: .ref (e_xb + g) :: st) S Q := by
  refine w_hop hd (fun h hs => ⟨h, e_hopB rfl ?_, hs⟩) k
  have hn := hs.2.1.2.2
  have hc := hs.2.1.1
  show (if e_xb + g < e_n h then _ else if e_xb ≤ e_xb + g ∧ e_xb + g < e_xb + 8 ∧ e_in x (X (e_xb + g - e_xb)).1 = true then some (Value.int ((X (e_xb + g - e_xb)).2 x.toNatClampNeg) :: st, h) else none) = _
  rw [if_neg (by omega), Nat.add_sub_cancel_left, if_pos ⟨by omega, by omega, hx.ein⟩, hx.2.1]
theorem w_alen (hd : decode K.2.2.1 pc = .ok (.arraylength, 1)) (hT : 100 ≤ (e_T t).1 ∧ (e_T t).1 ≤ 106) (hv : s_v S t j) (k : s_w X d K (pc + 1) ll (.int (nI (s_len S t j)) :: st) S Q) : s_w X d K pc ll (.ref (S.1.1 t j) :: st) S Q := by
  refine w_hop hd (fun h hs => ⟨h, e_hopE rfl rfl rfl rfl ?_, hs⟩) k
  obtain ⟨q1, q2, q3, -, q5⟩ := hs.1.1 t j hv
  show (if S.1.1 t j < e_n h then (if 100 ≤ e_kd h (S.1.1 t j) ∧ e_kd h (S.1.1 t j) ≤ 106 then some (Value.int (Int32.ofNat (e_ln h (S.1.1 t j))) :: st, h) else none) else _) = _
  rw [if_pos q2, if_pos (by rw [q3]; exact hT), hs.len hv]; rfl
theorem w_xlen {g : Nat} (hd : decode K.2.2.1 pc = .ok (.arraylength, 1)) (hg : g < 9) (hN : S.2.2.2.1.1 < e_xb) (k : s_w X d K (pc + 1) ll (.int (nI (X g).1) :: st) S Q) : s_w X d K pc ll (.ref (e_xb + g) :: st) S Q := by
  refine w_hop hd (fun h hs => ⟨h, e_hopE rfl rfl rfl rfl ?_, hs⟩) k
  have hn := hs.2.1.2.2
  have hc := hs.2.1.1
  show (if e_xb + g < e_n h then _ else if e_xb ≤ e_xb + g ∧ e_xb + g < e_xb + 9 then some (Value.int (Int32.ofNat (X (e_xb + g - e_xb)).1) :: st, h) else none) = _
  rw [if_neg (by omega), Nat.add_sub_cancel_left, if_pos ⟨by omega, by omega⟩]; rfl
theorem w_aaldL {l : Nat} (hd : decode K.2.2.1 pc = .ok (.aaload, 1)) (hl : s_v S T_LIST l) (hx : s_ix x n (S.2.1 f_l_size l).toNatClampNeg) (k : s_w X d K (pc + 1) ll (.ref (S.1.1 (e_elT l) (e_elI l n)) :: st) S Q) : s_w X d K pc ll (.int x :: .ref (S.1.1 T_LARR l) :: st) S Q := by
  refine w_hop hd (fun h hs => ⟨h, e_hopB rfl ?_, hs⟩) k
  obtain ⟨r1, r2, r3, r4⟩ := hs.1.2.2.2.2.1 l n hl hx.2.2
  obtain ⟨q1, q2, q3, -, q5⟩ := hs.1.1 T_LARR l r1
  have q6 : e_ln h (S.1.1 T_LARR l) = S.1.2.2.1 T_LARR l := q5
  show (if S.1.1 T_LARR l < e_n h ∧ (e_kd h (S.1.1 T_LARR l) = 105 ∨ e_kd h (S.1.1 T_LARR l) = 106) ∧ e_in x (e_ln h (S.1.1 T_LARR l)) = true then some (va_rf (e_toO (e_v h (S.1.1 T_LARR l) x.toNatClampNeg)) :: st, h) else none) = _
  have hx3 := hx.2.2
  rw [if_pos ⟨q2, Or.inl q3, (show s_ix x n (e_ln h (S.1.1 T_LARR l)) from ⟨hx.1, hx.2.1, by rw [q6]; omega⟩).ein⟩, hx.2.1, r4]; rfl
theorem w_aaldP {r : Nat} (hd : decode K.2.2.1 pc = .ok (.aaload, 1)) (hl : s_v S T_RANK r) (hx : s_ix x n (S.1.2.2.1 T_PARR r)) (k : s_w X d K (pc + 1) ll (.ref (S.1.1 T_PIPE (S.1.2.2.2.2 r + n)) :: st) S Q) : s_w X d K pc ll (.int x :: .ref (S.1.1 T_PARR r) :: st) S Q := by
  refine w_hop hd (fun h hs => ⟨h, e_hopB rfl ?_, hs⟩) k
  obtain ⟨r1, r2⟩ := hs.1.2.2.2.2.2.1 r hl
  obtain ⟨q1, q2, q3, -, q5⟩ := hs.1.1 T_PARR r r1
  have q6 : e_ln h (S.1.1 T_PARR r) = S.1.2.2.1 T_PARR r := q5
  show (if S.1.1 T_PARR r < e_n h ∧ (e_kd h (S.1.1 T_PARR r) = 105 ∨ e_kd h (S.1.1 T_PARR r) = 106) ∧ e_in x (e_ln h (S.1.1 T_PARR r)) = true then some (va_rf (e_toO (e_v h (S.1.1 T_PARR r) x.toNatClampNeg)) :: st, h) else none) = _
  rw [if_pos ⟨q2, Or.inr q3, by rw [q6]; exact hx.ein⟩, hx.2.1, (r2 n hx.2.2).2]; rfl
/-- the stop and the coupler of a knob -/
theorem w_getStop {pl ho : Nat} (hd : decode K.2.2.1 pc = .ok (.getfield ix, 3)) (hfl : e_fl K.1 ix = some (ix, 8, 2, pl, ho)) (hv : s_v S T_KNOB j) (k : s_w X d K (pc + 3) ll (va_rf (if S.1.2.1 T_STOP j = true then some (S.1.1 T_STOP j) else none) :: st) S Q) : s_w X d K pc ll (.ref (S.1.1 T_KNOB j) :: st) S Q :=
  w_getO hd hfl rfl (fun _ => rfl) hv (fun h hs => (hs.1.2.2.2.2.2.2 j hv).1) k
theorem w_getCoup {pl ho : Nat} (hd : decode K.2.2.1 pc = .ok (.getfield ix, 3)) (hfl : e_fl K.1 ix = some (ix, 8, 3, pl, ho)) (hv : s_v S T_KNOB j) (k : s_w X d K (pc + 3) ll (va_rf (if S.1.2.1 T_COUP j = true then some (S.1.1 T_COUP j) else none) :: st) S Q) : s_w X d K pc ll (.ref (S.1.1 T_KNOB j) :: st) S Q :=
  w_getO hd hfl rfl (fun _ => rfl) hv (fun h hs => (hs.1.2.2.2.2.2.2 j hv).2) k
theorem w_chk {ci pl : Nat} (hd : decode K.2.2.1 pc = .ok (.checkcast ix, 3)) (hk : e_kl K.1 ix = some (ix, ci, pl)) (hT : (e_T t).1 = ci) (h21 : ci < 21) (hv : s_v S t j) (k : s_w X d K (pc + 3) ll (.ref (S.1.1 t j) :: st) S Q) : s_w X d K pc ll (.ref (S.1.1 t j) :: st) S Q := by
  refine w_hop hd (fun h hs => ⟨h, e_hopE rfl rfl rfl rfl ?_, hs⟩) k
  obtain ⟨q1, q2, q3, -, q5⟩ := hs.1.1 t j hv
  show (match e_kl K.1 ix with
    | some r => if S.1.1 t j < e_n h ∧ e_kd h (S.1.1 t j) = r.2.1 ∧ r.2.1 < 21 then some (Value.ref (S.1.1 t j) :: st, h) else none
    | none => none) = _
  rw [hk]
  exact if_pos ⟨q2, q3.trans hT, h21⟩
theorem w_gets {g pl : Nat} (hd : decode K.2.2.1 pc = .ok (.getstatic ix, 3)) (hk : e_sl K.1 ix = some (ix, g, pl)) (k : s_w X d K (pc + 3) ll (.ref (e_xb + g) :: st) S Q) : s_w X d K pc ll st S Q := by
  refine w_hop hd (fun h hs => ⟨h, e_hopE rfl rfl rfl rfl ?_, hs⟩) k
  show (match e_sl K.1 ix with
    | some r => some (Value.ref (e_xb + r.2.1) :: st, h)
    | none => none) = _
  rw [hk]
theorem w_ldci {pl : Nat} (hd : decode K.2.2.1 pc = .ok (.ldc ix, 2)) (hk : e_ki K.1 ix = some (ix, x, pl)) (k : s_w X d K (pc + 2) ll (.int x :: st) S Q) : s_w X d K pc ll st S Q := by
  refine w_hop hd (fun h hs => ⟨h, e_hopE rfl rfl rfl rfl ?_, hs⟩) k
  show (match e_ki K.1 ix with
    | some r => some (Value.int r.2.1 :: st, h)
    | none => none) = _
  rw [hk]
theorem w_ldciW {pl : Nat} (hd : decode K.2.2.1 pc = .ok (.ldc_w ix, 3)) (hk : e_ki K.1 ix = some (ix, x, pl)) (k : s_w X d K (pc + 3) ll (.int x :: st) S Q) : s_w X d K pc ll st S Q := by
  refine w_hop hd (fun h hs => ⟨h, e_hopE rfl rfl rfl rfl ?_, hs⟩) k
  show (match e_ki K.1 ix with
    | some r => some (Value.int r.2.1 :: st, h)
    | none => none) = _
  rw [hk]
theorem w_ldcj {pl : Nat} (hd : decode K.2.2.1 pc = .ok (.ldc2_w ix, 3)) (hk : e_kj K.1 ix = some (ix, z, pl)) (k : s_w X d K (pc + 3) ll (.long z :: st) S Q) : s_w X d K pc ll st S Q := by
  refine w_hop hd (fun h hs => ⟨h, e_hopE rfl rfl rfl rfl ?_, hs⟩) k
  show (match e_kj K.1 ix with
    | some r => some (Value.long r.2.1 :: st, h)
    | none => none) = _
  rw [hk]
end s_as
