/-! 27: the judgement over the typed picture: no heap is seen from here on -/
abbrev e_Rw1 : Type := Nat → Option (Nat × Nat × (Nat → Value))
/-- shape, ints, longs, room taken, things that are being made -/
abbrev e_SS : Type := e_Sp × e_I × e_Jt × (Nat × Nat) × e_Rw1
def s_raw (p : e_Sp) (w : e_Rw1) (h : e_Hp) : Prop := ∀ a o, w a = some o → (a < e_n h ∧ e_kd h a = o.1 ∧ e_ln h a = o.2.1 ∧ ∀ s, e_v h a s = o.2.2 s) ∧ ∀ t i, p.2.1 t i = true → p.1 t i ≠ a
def s_is (S : e_SS) (h : e_Hp) : Prop := e_rep S.1 S.2.1 S.2.2.1 h ∧ (e_c h = S.2.2.2.1.1 ∧ e_s h = S.2.2.2.1.2 ∧ e_n h ≤ e_c h) ∧ s_raw S.1 S.2.2.2.2 h
theorem s_raw.set {p : e_Sp} {w : e_Rw1} {h : e_Hp} {t i s : Nat} {v : Value} (hr : s_raw p w h) (hv : p.2.1 t i = true) : s_raw p w (e_set h (p.1 t i) s v) := by
  intro a o ho
  obtain ⟨⟨h1, h2, h3, h4⟩, h5⟩ := hr a o ho
  exact ⟨⟨h1, h2, h3, fun s' => by rw [e_v_ne (Or.inl (Ne.symm (h5 t i hv)))]; exact h4 s'⟩, h5⟩
def s_w (X : e_XT) (d : Nat) (K : e_KT) (pc : Nat) (ll : e_LL) (st : List Value) (S : e_SS) (Q : e_Rt → e_SS → Prop) : Prop :=
  ∀ h, s_is S h → ∃ r h' S', Q r S' ∧ s_is S' h' ∧ e_J X d K pc ll st h r h'
def s_c (X : e_XT) (d mi : Nat) (args : List Value) (S : e_SS) (Q : e_Rt → e_SS → Prop) : Prop :=
  ∀ h, s_is S h → ∃ r h' S', Q r S' ∧ s_is S' h' ∧ e_Mt X d mi args h r h'
abbrev s_P (S : e_SS) (t i : Nat) : Value := .ref (S.1.1 t i)
abbrev s_v (S : e_SS) (t i : Nat) : Prop := S.1.2.1 t i = true
def s_aft (X : e_XT) (d : Nat) (K : e_KT) (pc : Nat) (ll : e_LL) (rest : List Value) (Q : e_Rt → e_SS → Prop) (r : e_Rt) (S : e_SS) : Prop := match r with
  | .inl v => s_w X d K (pc + 3) ll (v.toList ++ rest) S Q
  | .inr E => K.2.2.2.2 = [] ∧ Q (.inr E) S
def s_I (S : e_SS) (F i : Nat) (x : Int32) : e_SS := (S.1, s_up S.2.1 F i x, S.2.2)
def s_J (S : e_SS) (F i : Nat) (x : Int64) : e_SS := (S.1, S.2.1, s_up S.2.2.1 F i x, S.2.2.2)
def s_add (S : e_SS) (c s : Nat) : e_SS := (S.1, S.2.1, S.2.2.1, (S.2.2.2.1.1 + c, S.2.2.2.1.2 + s), S.2.2.2.2)
section s_ws
variable {X : e_XT} {d : Nat} {K : e_KT} {pc pc' len ix : Nat} {i : Instr} {ll ll' : e_LL} {st st' rest : List Value} {S S' : e_SS} {Q Q' : e_Rt → e_SS → Prop} {off : Int} {t : Nat}
theorem s_c.mono {mi : Nat} {args : List Value} (h : s_c X d mi args S Q) (hq : ∀ r S', Q r S' → Q' r S') : s_c X d mi args S Q' := fun hp hi => by
  obtain ⟨r, h', S', a, b⟩ := h hp hi
  exact ⟨r, h', S', hq _ _ a, b⟩
theorem s_w.mono (h : s_w X d K pc ll st S Q) (hq : ∀ r S', Q r S' → Q' r S') : s_w X d K pc ll st S Q' := fun hp hi => by
  obtain ⟨r, h', S', a, b⟩ := h hp hi
  exact ⟨r, h', S', hq _ _ a, b⟩
theorem w_op (hd : decode K.2.2.1 pc = .ok (i, len)) (hop : e_op K.2.2.2.1 i len pc ll st = some (pc', ll', st')) (k : s_w X d K pc' ll' st' S Q) : s_w X d K pc ll st S Q := fun h hi => by
  obtain ⟨r, h', S', a, b, c⟩ := k h hi
  exact ⟨r, h', S', a, b, c.op hop hd⟩
theorem e_opG_some {nL : Nat} {z : Nat × e_LL × List Value} (hA : e_opA i len pc ll st = none) (hB : e_opB i len pc ll st = none) (hC : e_opC nL i len pc ll st = none) (hD : e_opD i len pc ll st = none) (hE : e_opE i len pc ll st = none) (hF : e_opF i len pc ll st = none) (hG : e_opG i len pc ll st = some z) : e_op nL i len pc ll st = some z := by
  unfold e_op
  rw [hA, hB, hC, hD, hE, hF, hG]
theorem w_if {b : Bool} {c : Prop} {nx : Nat} (hd : decode K.2.2.1 pc = .ok (i, len)) (hop : ∀ z, e_jmp b pc off nx ll st' = some z → e_op K.2.2.2.1 i len pc ll st = some z) (hb : b = true ↔ c) (ht : (pc : Int) + off = (t : Int)) (kt : c → s_w X d K t ll st' S Q) (kf : ¬ c → s_w X d K nx ll st' S Q) : s_w X d K pc ll st S Q := by
  have hj : e_jmp b pc off nx ll st' = some (if b then t else nx, ll, st') := by
    unfold e_jmp e_go
    rw [ht]
  cases hb0 : b with
  | true => exact w_op hd (hop _ (by rw [hj, hb0]; rfl)) (kt (hb.mp hb0))
  | false => exact w_op hd (hop _ (by rw [hj, hb0]; rfl)) (kf (fun z => by rw [hb.mpr z] at hb0; cases hb0))
theorem w_goto (hd : decode K.2.2.1 pc = .ok (.goto off, 3)) (ht : (pc : Int) + off = (t : Int)) (k : s_w X d K t ll st S Q) : s_w X d K pc ll st S Q := by
  refine w_op hd (ll' := ll) (st' := st) (pc' := t) ?_ k
  have hj : e_jmp true pc off 0 ll st = some (t, ll, st) := by unfold e_jmp e_go; rw [ht]; rfl
  exact e_opG_some (i := .goto off) rfl rfl rfl rfl rfl rfl hj
section cmps
variable {x y : Int32}
theorem w_ifeq (hd : decode K.2.2.1 pc = .ok (.ifCond .eq off, 3)) (ht : (pc : Int) + off = (t : Int)) (kt : x = 0 → s_w X d K t ll st S Q) (kf : ¬ x = 0 → s_w X d K (pc + 3) ll st S Q) : s_w X d K pc ll (.int x :: st) S Q := w_if hd (fun z hz => e_opG_some rfl rfl rfl rfl rfl rfl hz) decide_eq_true_iff ht kt kf
theorem w_ifne (hd : decode K.2.2.1 pc = .ok (.ifCond .ne off, 3)) (ht : (pc : Int) + off = (t : Int)) (kt : ¬ x = 0 → s_w X d K t ll st S Q) (kf : x = 0 → s_w X d K (pc + 3) ll st S Q) : s_w X d K pc ll (.int x :: st) S Q := w_if hd (fun z hz => e_opG_some rfl rfl rfl rfl rfl rfl hz) decide_eq_true_iff ht kt (fun z => kf (Decidable.not_not.mp z))
theorem w_iflt (hd : decode K.2.2.1 pc = .ok (.ifCond .lt off, 3)) (ht : (pc : Int) + off = (t : Int)) (kt : x < 0 → s_w X d K t ll st S Q) (kf : ¬ x < 0 → s_w X d K (pc + 3) ll st S Q) : s_w X d K pc ll (.int x :: st) S Q := w_if hd (fun z hz => e_opG_some rfl rfl rfl rfl rfl rfl hz) decide_eq_true_iff ht kt kf
theorem w_ifge (hd : decode K.2.2.1 pc = .ok (.ifCond .ge off, 3)) (ht : (pc : Int) + off = (t : Int)) (kt : 0 ≤ x → s_w X d K t ll st S Q) (kf : ¬ 0 ≤ x → s_w X d K (pc + 3) ll st S Q) : s_w X d K pc ll (.int x :: st) S Q := w_if hd (fun z hz => e_opG_some rfl rfl rfl rfl rfl rfl hz) decide_eq_true_iff ht kt kf
theorem w_ifgt (hd : decode K.2.2.1 pc = .ok (.ifCond .gt off, 3)) (ht : (pc : Int) + off = (t : Int)) (kt : 0 < x → s_w X d K t ll st S Q) (kf : ¬ 0 < x → s_w X d K (pc + 3) ll st S Q) : s_w X d K pc ll (.int x :: st) S Q := w_if hd (fun z hz => e_opG_some rfl rfl rfl rfl rfl rfl hz) decide_eq_true_iff ht kt kf
theorem w_ifle (hd : decode K.2.2.1 pc = .ok (.ifCond .le off, 3)) (ht : (pc : Int) + off = (t : Int)) (kt : x ≤ 0 → s_w X d K t ll st S Q) (kf : ¬ x ≤ 0 → s_w X d K (pc + 3) ll st S Q) : s_w X d K pc ll (.int x :: st) S Q := w_if hd (fun z hz => e_opG_some rfl rfl rfl rfl rfl rfl hz) decide_eq_true_iff ht kt kf
theorem w_icmpeq (hd : decode K.2.2.1 pc = .ok (.if_icmp .eq off, 3)) (ht : (pc : Int) + off = (t : Int)) (kt : x = y → s_w X d K t ll st S Q) (kf : ¬ x = y → s_w X d K (pc + 3) ll st S Q) : s_w X d K pc ll (.int y :: .int x :: st) S Q := w_if hd (fun z hz => hz) decide_eq_true_iff ht kt kf
theorem w_icmpne (hd : decode K.2.2.1 pc = .ok (.if_icmp .ne off, 3)) (ht : (pc : Int) + off = (t : Int)) (kt : ¬ x = y → s_w X d K t ll st S Q) (kf : x = y → s_w X d K (pc + 3) ll st S Q) : s_w X d K pc ll (.int y :: .int x :: st) S Q := w_if hd (fun z hz => hz) decide_eq_true_iff ht kt (fun z => kf (Decidable.not_not.mp z))
theorem w_icmplt (hd : decode K.2.2.1 pc = .ok (.if_icmp .lt off, 3)) (ht : (pc : Int) + off = (t : Int)) (kt : x < y → s_w X d K t ll st S Q) (kf : ¬ x < y → s_w X d K (pc + 3) ll st S Q) : s_w X d K pc ll (.int y :: .int x :: st) S Q := w_if hd (fun z hz => hz) decide_eq_true_iff ht kt kf
theorem w_icmpge (hd : decode K.2.2.1 pc = .ok (.if_icmp .ge off, 3)) (ht : (pc : Int) + off = (t : Int)) (kt : y ≤ x → s_w X d K t ll st S Q) (kf : ¬ y ≤ x → s_w X d K (pc + 3) ll st S Q) : s_w X d K pc ll (.int y :: .int x :: st) S Q := w_if hd (fun z hz => hz) decide_eq_true_iff ht kt kf
theorem w_icmpgt (hd : decode K.2.2.1 pc = .ok (.if_icmp .gt off, 3)) (ht : (pc : Int) + off = (t : Int)) (kt : y < x → s_w X d K t ll st S Q) (kf : ¬ y < x → s_w X d K (pc + 3) ll st S Q) : s_w X d K pc ll (.int y :: .int x :: st) S Q := w_if hd (fun z hz => hz) decide_eq_true_iff ht kt kf
theorem w_icmple (hd : decode K.2.2.1 pc = .ok (.if_icmp .le off, 3)) (ht : (pc : Int) + off = (t : Int)) (kt : x ≤ y → s_w X d K t ll st S Q) (kf : ¬ x ≤ y → s_w X d K (pc + 3) ll st S Q) : s_w X d K pc ll (.int y :: .int x :: st) S Q := w_if hd (fun z hz => hz) decide_eq_true_iff ht kt kf
theorem w_ifnull_t (hd : decode K.2.2.1 pc = .ok (.ifnull off, 3)) (ht : (pc : Int) + off = (t : Int)) (k : s_w X d K t ll st S Q) : s_w X d K pc ll (.null :: st) S Q := w_if (b := true) (c := True) (nx := 0) hd (fun z hz => hz) (by simp) ht (fun _ => k) (fun z => absurd trivial z)
theorem w_ifnull_f {a : Nat} (hd : decode K.2.2.1 pc = .ok (.ifnull off, 3)) (k : s_w X d K (pc + 3) ll st S Q) : s_w X d K pc ll (.ref a :: st) S Q := w_op hd rfl k
theorem w_ifnonnull_t {a : Nat} (hd : decode K.2.2.1 pc = .ok (.ifnonnull off, 3)) (ht : (pc : Int) + off = (t : Int)) (k : s_w X d K t ll st S Q) : s_w X d K pc ll (.ref a :: st) S Q := w_if (b := true) (c := True) (nx := 0) hd (fun z hz => hz) (by simp) ht (fun _ => k) (fun z => absurd trivial z)
theorem w_ifnonnull_f (hd : decode K.2.2.1 pc = .ok (.ifnonnull off, 3)) (k : s_w X d K (pc + 3) ll st S Q) : s_w X d K pc ll (.null :: st) S Q := w_op hd rfl k
end cmps
theorem w_ret {v : Option Value} (hd : decode K.2.2.1 pc = .ok (i, 1)) (hi : e_ri i v = true) (hq : Q (.inl v) S) : s_w X d K pc ll v.toList S Q := fun h hs => ⟨.inl v, h, S, hq, hs, e_J.ret hd hi⟩
theorem w_ireturn {x : Int32} (hd : decode K.2.2.1 pc = .ok (.ireturn, 1)) (hq : Q (.inl (some (.int x))) S) : s_w X d K pc ll [.int x] S Q := w_ret (v := some (.int x)) hd rfl hq
theorem w_lreturn {x : Int64} (hd : decode K.2.2.1 pc = .ok (.lreturn, 1)) (hq : Q (.inl (some (.long x))) S) : s_w X d K pc ll [.long x] S Q := w_ret (v := some (.long x)) hd rfl hq
theorem w_freturn {x : UInt32} (hd : decode K.2.2.1 pc = .ok (.freturn, 1)) (hq : Q (.inl (some (.float x))) S) : s_w X d K pc ll [.float x] S Q := w_ret (v := some (.float x)) hd rfl hq
theorem w_dreturn {x : UInt64} (hd : decode K.2.2.1 pc = .ok (.dreturn, 1)) (hq : Q (.inl (some (.double x))) S) : s_w X d K pc ll [.double x] S Q := w_ret (v := some (.double x)) hd rfl hq
theorem w_areturn {x : Nat} (hd : decode K.2.2.1 pc = .ok (.areturn, 1)) (hq : Q (.inl (some (.ref x))) S) : s_w X d K pc ll [.ref x] S Q := w_ret (v := some (.ref x)) hd rfl hq
theorem w_areturnN (hd : decode K.2.2.1 pc = .ok (.areturn, 1)) (hq : Q (.inl (some .null)) S) : s_w X d K pc ll [.null] S Q := w_ret (v := some .null) hd rfl hq
theorem w_return (hd : decode K.2.2.1 pc = .ok (.return_, 1)) (hq : Q (.inl none) S) : s_w X d K pc ll [] S Q := w_ret (v := none) hd rfl hq
/-- a heap step -/
theorem w_hop (hd : decode K.2.2.1 pc = .ok (i, len)) (hop : ∀ h, s_is S h → ∃ h1, e_hop X K.1 K.2.1 i len st h = some (st', h1) ∧ s_is S' h1) (k : s_w X d K (pc + len) ll st' S' Q) : s_w X d K pc ll st S Q := fun h hs => by
  obtain ⟨h1, a, b⟩ := hop h hs
  obtain ⟨r, h', S', q, z, c⟩ := k h1 b
  exact ⟨r, h', S', q, z, c.hop a hd⟩
theorem e_hopA {own : Nat} {ini : Bool} {h h1 : e_Hp} (e : e_hA own ini i len st h = some (st', h1)) : e_hop X own ini i len st h = some (st', h1) := by unfold e_hop; rw [e]
/-- a field is read -/
theorem w_getI (F : Nat) {ci sl pl ho j : Nat} (hd : decode K.2.2.1 pc = .ok (.getfield ix, 3)) (hfl : e_fl K.1 ix = some (ix, ci, sl, pl, ho)) (hF : e_FI F = (t, sl, 1)) (hN : F < e_NI) (hT : (e_T t).1 = ci) (hty : e_rd (e_cY ci sl) (.int 0) = .int 0 ∧ ∀ v, e_rd (e_cY ci sl) v = .int (e_toI v)) (hv : s_v S t j) (k : s_w X d K (pc + 3) ll (.int (S.2.1 F j) :: st) S Q) : s_w X d K pc ll (.ref (S.1.1 t j) :: st) S Q := by
  refine w_hop hd (fun h hs => ⟨h, e_hopA ?_, hs⟩) k
  obtain ⟨q1, q2, q3, -, -⟩ := hs.1.1 t j hv
  have h2 := hs.1.2.1 F j hN (by rw [hF]; show S.1.2.1 t (j / 1) = true; rw [Nat.div_one]; exact hv)
  rw [hF] at h2
  simp only [Nat.div_one, Nat.mod_one, Nat.add_zero] at h2
  show (match e_fl K.1 ix with
    | some r => if S.1.1 t j < e_n h ∧ e_kd h (S.1.1 t j) = r.2.1 then some (e_rd (e_cY r.2.1 r.2.2.1) (e_v h (S.1.1 t j) r.2.2.1) :: st, h) else none
    | none => none) = _
  rw [hfl]
  show (if S.1.1 t j < e_n h ∧ e_kd h (S.1.1 t j) = ci then some (e_rd (e_cY ci sl) (e_v h (S.1.1 t j) sl) :: st, h) else none) = _
  rw [if_pos ⟨q2, q3.trans hT⟩, hty.2, h2]
theorem w_getJ (F : Nat) {ci sl pl ho j : Nat} (hd : decode K.2.2.1 pc = .ok (.getfield ix, 3)) (hfl : e_fl K.1 ix = some (ix, ci, sl, pl, ho)) (hF : e_FJ F = (t, sl, 1)) (hN : F < e_NJ) (hT : (e_T t).1 = ci) (hty : ∀ v, e_rd (e_cY ci sl) v = .long (e_toJ v)) (hv : s_v S t j) (k : s_w X d K (pc + 3) ll (.long (S.2.2.1 F j) :: st) S Q) : s_w X d K pc ll (.ref (S.1.1 t j) :: st) S Q := by
  refine w_hop hd (fun h hs => ⟨h, e_hopA ?_, hs⟩) k
  obtain ⟨q1, q2, q3, -, -⟩ := hs.1.1 t j hv
  have h2 := hs.1.2.2.1 F j hN (by rw [hF]; show S.1.2.1 t (j / 1) = true; rw [Nat.div_one]; exact hv)
  rw [hF] at h2
  simp only [Nat.div_one, Nat.mod_one, Nat.add_zero] at h2
  show (match e_fl K.1 ix with
    | some r => if S.1.1 t j < e_n h ∧ e_kd h (S.1.1 t j) = r.2.1 then some (e_rd (e_cY r.2.1 r.2.2.1) (e_v h (S.1.1 t j) r.2.2.1) :: st, h) else none
    | none => none) = _
  rw [hfl]
  show (if S.1.1 t j < e_n h ∧ e_kd h (S.1.1 t j) = ci then some (e_rd (e_cY ci sl) (e_v h (S.1.1 t j) sl) :: st, h) else none) = _
  rw [if_pos ⟨q2, q3.trans hT⟩, hty, h2]
theorem w_getO {o : Option Nat} {ci sl pl ho j : Nat} (hd : decode K.2.2.1 pc = .ok (.getfield ix, 3)) (hfl : e_fl K.1 ix = some (ix, ci, sl, pl, ho)) (hT : (e_T t).1 = ci) (hty : ∀ v, e_rd (e_cY ci sl) v = va_rf (e_toO v)) (hv : s_v S t j) (ho : ∀ h, s_is S h → e_toO (e_v h (S.1.1 t j) sl) = o) (k : s_w X d K (pc + 3) ll (va_rf o :: st) S Q) : s_w X d K pc ll (.ref (S.1.1 t j) :: st) S Q := by
  refine w_hop hd (fun h hs => ⟨h, e_hopA ?_, hs⟩) k
  obtain ⟨q1, q2, q3, -, -⟩ := hs.1.1 t j hv
  show (match e_fl K.1 ix with
    | some r => if S.1.1 t j < e_n h ∧ e_kd h (S.1.1 t j) = r.2.1 then some (e_rd (e_cY r.2.1 r.2.2.1) (e_v h (S.1.1 t j) r.2.2.1) :: st, h) else none
    | none => none) = _
  rw [hfl]
  show (if S.1.1 t j < e_n h ∧ e_kd h (S.1.1 t j) = ci then some (e_rd (e_cY ci sl) (e_v h (S.1.1 t j) sl) :: st, h) else none) = _
  rw [if_pos ⟨q2, q3.trans hT⟩, hty, ho h hs]
/-- a reference of the table -/
theorem w_getG (G : Nat) {ci sl pl ho j tt sm cc : Nat} (hd : decode K.2.2.1 pc = .ok (.getfield ix, 3)) (hfl : e_fl K.1 ix = some (ix, ci, sl, pl, ho)) (hG : e_FG G = (t, sl, tt, sm, cc)) (hN : G < e_NG) (hT : (e_T t).1 = ci) (hty : ∀ v, e_rd (e_cY ci sl) v = va_rf (e_toO v)) (hv : s_v S t j) (k : s_w X d K (pc + 3) ll (.ref (S.1.1 tt (if sm = 1 then j else cc)) :: st) S Q) : s_w X d K pc ll (.ref (S.1.1 t j) :: st) S Q := by
  refine w_getO (o := some (S.1.1 tt (if sm = 1 then j else cc))) hd hfl hT hty hv (fun h hs => ?_) k
  have h4 := hs.1.2.2.2.1 G j hN (by rw [hG]; exact hv)
  rw [hG] at h4
  exact h4
/-- an int is written into a field -/
theorem w_putI (F : Nat) {x : Int32} {ci sl pl ho j : Nat} (hd : decode K.2.2.1 pc = .ok (.putfield ix, 3)) (hfl : e_fl K.1 ix = some (ix, ci, sl, pl, ho)) (hF : e_FI F = (t, sl, 1)) (hN : F < e_NI) (hsz : F ≠ f_l_size) (hT : (e_T t).1 = ci) (hck : e_ck (e_cY ci sl) (.int x) = true) (hfin : (e_cT ci sl).2.2.2 = false ∨ (K.2.1 = true ∧ ci = K.1 ∧ ho = 0)) (hv : s_v S t j) (k : s_w X d K (pc + 3) ll st (s_I S F j x) Q) : s_w X d K pc ll (.int x :: .ref (S.1.1 t j) :: st) S Q := by
  refine w_hop hd (fun h hs => ⟨e_set h (S.1.1 t j) sl (.int x), e_hopA ?_, ?_⟩) k
  · obtain ⟨q1, q2, q3, -, -⟩ := hs.1.1 t j hv
    show (match e_fl K.1 ix with
      | some r => if S.1.1 t j < e_n h ∧ e_kd h (S.1.1 t j) = r.2.1 ∧ e_ck (e_cY r.2.1 r.2.2.1) (.int x) = true ∧ ((e_cT r.2.1 r.2.2.1).2.2.2 = false ∨ (K.2.1 = true ∧ r.2.1 = K.1 ∧ r.2.2.2.2 = 0)) then some (st, e_set h (S.1.1 t j) r.2.2.1 (.int x)) else none
      | none => none) = _
    rw [hfl]
    exact if_pos ⟨q2, q3.trans hT, hck, hfin⟩
  · have h2 := hs.1.setI (F := F) (i := j) (x := x) hN (by rw [hF]; show S.1.2.1 t (j / 1) = true; rw [Nat.div_one]; exact hv) hsz
    rw [hF] at h2
    simp only [Nat.div_one, Nat.mod_one, Nat.add_zero] at h2
    exact ⟨h2, hs.2.1, hs.2.2.set hv⟩
theorem w_putJ (F : Nat) {x : Int64} {ci sl pl ho j : Nat} (hd : decode K.2.2.1 pc = .ok (.putfield ix, 3)) (hfl : e_fl K.1 ix = some (ix, ci, sl, pl, ho)) (hF : e_FJ F = (t, sl, 1)) (hN : F < e_NJ) (hT : (e_T t).1 = ci) (hck : e_ck (e_cY ci sl) (.long x) = true) (hfin : (e_cT ci sl).2.2.2 = false ∨ (K.2.1 = true ∧ ci = K.1 ∧ ho = 0)) (hv : s_v S t j) (k : s_w X d K (pc + 3) ll st (s_J S F j x) Q) : s_w X d K pc ll (.long x :: .ref (S.1.1 t j) :: st) S Q := by
  refine w_hop hd (fun h hs => ⟨e_set h (S.1.1 t j) sl (.long x), e_hopA ?_, ?_⟩) k
  · obtain ⟨q1, q2, q3, -, -⟩ := hs.1.1 t j hv
    show (match e_fl K.1 ix with
      | some r => if S.1.1 t j < e_n h ∧ e_kd h (S.1.1 t j) = r.2.1 ∧ e_ck (e_cY r.2.1 r.2.2.1) (.long x) = true ∧ ((e_cT r.2.1 r.2.2.1).2.2.2 = false ∨ (K.2.1 = true ∧ r.2.1 = K.1 ∧ r.2.2.2.2 = 0)) then some (st, e_set h (S.1.1 t j) r.2.2.1 (.long x)) else none
      | none => none) = _
    rw [hfl]
    exact if_pos ⟨q2, q3.trans hT, hck, hfin⟩
  · have h2 := hs.1.setJ (F := F) (i := j) (y := x) hN (by rw [hF]; show S.1.2.1 t (j / 1) = true; rw [Nat.div_one]; exact hv)
    rw [hF] at h2
    simp only [Nat.div_one, Nat.mod_one, Nat.add_zero] at h2
    exact ⟨h2, hs.2.1, hs.2.2.set hv⟩
end s_ws
