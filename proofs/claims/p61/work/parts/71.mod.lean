/-! 71: a list's count of changes (an inherited field), references that are the same, the row's class -/
def s_mcw (own : Nat) : Nat × String × Nat := if own = 3 then (63, "java/util/ArrayList", 135) else (7, "java/util/AbstractList", 134)
theorem s_mc1 : (e_w 135 (.fieldLink "java/util/ArrayList" 63 "java/util/ArrayList" "modCount" "I") && e_w 134 (.fieldLink "java/util/AbstractList" 7 "java/util/AbstractList" "modCount" "I") && e_w 136 (.sameField "java/util/ArrayList" "java/util/AbstractList" "modCount" "I")) = true := by decide +kernel
section s_mc
variable {X : e_XT} {d : Nat} {K : e_KT} {pc ix b : Nat} {ll : e_LL} {rest : List Value} {h h' : e_Hp} {r : e_Rt} {x : Int32}
theorem s_mc_link {args : Array Value} {s : State} {own : Nat} (ho : (own = 3 ∧ ix = 63) ∨ (own = 22 ∧ ix = 7)) (hts : ∀ w ∈ e_tt, w.before args s = true) : ∃ ref, (Cond.fieldLink (e_cn own) ix ref "modCount" "I").before args s = true ∧ ∀ x, s.fieldFound? "java/util/AbstractList" "modCount" "I" = some x → s.fieldFound? ref "modCount" "I" = some x := by
  have h := s_mc1
  rw [Bool.and_eq_true, Bool.and_eq_true] at h
  rcases ho with ⟨rfl, rfl⟩ | ⟨rfl, rfl⟩
  · exact ⟨_, hts _ (e_w_in h.1.1), fun x hx => u_same (hts _ (e_w_in h.2)) x hx⟩
  · exact ⟨_, hts _ (e_w_in h.1.2), fun x hx => hx⟩
theorem e_J.getMC (ho : (K.1 = 3 ∧ ix = 63) ∨ (K.1 = 22 ∧ ix = 7)) (hb : b < e_n h) (hk : e_kd h b = 3) (hdg : decode K.2.2.1 pc = .ok (.getfield ix, 3)) (k : e_J X d K (pc + 3) ll (.int (e_toI (e_v h b 0)) :: rest) h r h') : e_J X d K pc ll (.ref b :: rest) h r h' := by
  intro hw w
  obtain ⟨g, kk⟩ := k hw (w.tail.cons (fun q hq => by cases hq))
  refine ⟨g, fun p l e R s m args below meth c H locs cells slots Q ad ls D cA ex A C hf hl hex hP hD hS hL hc hs hfin => ?_⟩
  have k9 := kk p l e R s m args below meth c H locs cells slots Q ad ls D cA ex A C hf hl hex hP hD hS hL hc hs hfin
  obtain ⟨ref, hlk, hsm⟩ := s_mc_link ho C.1.2.2.2.2.2.1
  have he : (e_wd cA ad h)[_]? = some _ := (e_wd_get hb).trans (congrArg some (e_ent_o hk (by decide)))
  exact va_get C.1.1 C.1.2.1 C.1.2.2.2.2.2.1 (e_uw (by decide : 3 < 21)) C.1.2.2.2.1 C.2.1.1.1 hP _ he (e_vw 3 (by decide)) 0 (by decide) hlk hsm (e_fs_get 3 _ (by decide)) hdg k9
theorem e_J.putMC (ho : (K.1 = 3 ∧ ix = 63) ∨ (K.1 = 22 ∧ ix = 7)) (hb : b < e_n h) (hk : e_kd h b = 3) (hdg : decode K.2.2.1 pc = .ok (.putfield ix, 3)) (k : e_J X d K (pc + 3) ll rest (e_set h b 0 (.int x)) r h') : e_J X d K pc ll (.int x :: .ref b :: rest) h r h' := by
  intro hw w
  obtain ⟨⟨g1, g2, g3⟩, kk⟩ := k (hw.set e_okv.int) w.tail.tail
  refine ⟨⟨g1, e_grow.set.trans g2, g3⟩, fun p l e R s m args below meth c H locs cells slots Q ad ls D cA ex A C hf hl hex hP hD hS hL hc hs hfin => ?_⟩
  obtain ⟨ref, hlk, hsm⟩ := s_mc_link ho C.1.2.2.2.2.2.1
  have he : (e_wd cA ad h)[_]? = some _ := (e_wd_get hb).trans (congrArg some (e_ent_o hk (by decide)))
  have hck : e_ck (e_cY 3 0) (.int x) = true := rfl
  have e9 : e_wd cA ad (e_set h b 0 (.int x)) = (e_wd cA ad h).set b (ad b, .inr (3, (e_fs ad 3 (e_v h b)).set 0 (e_rl ad (.int x)))) := e_wd_set hb ((e_ent_o (hp := e_set h b 0 (.int x)) hk (by decide)).trans (by rw [e_v_set, e_fs_set 3 _ (by decide) hck]))
  refine va_put C.1.1 C.1.2.1 C.1.2.2.2.2.2.1 (e_uw (by decide : 3 < 21)) (e_cY 3) (e_ty 3 (by decide)) (e_nm 3 (by decide)) C.1.2.2.2.1 C.2.1.1.1 hP hD hS _ he (e_vw 3 (by decide)) 0 (by decide) hlk hsm rfl (e_ty 3 (by decide) 0 (by decide)) (e_ck_nar hck).1 (e_ck_nar hck).2 (by rw [e_fs_len]; decide) hdg (fun H1 L1 a1 a2 a3 => ?_)
  rw [← e9] at a1 a2
  exact kk p l e R s m args below meth c H1 L1 cells slots Q ad ls D cA ex A C hf hl hex a1 a2 a3 hL hc hs hfin
theorem e_J.acmpeq {off : Int} {t : Nat} (ht : (pc : Int) + off = (t : Int)) (hdg : decode K.2.2.1 pc = .ok (.if_acmp .eq off, 3)) (k : e_J X d K t ll rest h r h') : e_J X d K pc ll (.ref b :: .ref b :: rest) h r h' := by
  intro hw w
  obtain ⟨g, kk⟩ := k hw w.tail.tail
  refine ⟨g, fun p l e R s m args below meth c H locs cells slots Q ad ls D cA ex A C hf hl hex hP hD hS hL hc hs hfin => ?_⟩
  exact lv_acmp_eq (rx := some (ad b)) (ry := some (ad b)) C.1.1 C.1.2.1 hdg ht (fun _ => kk p l e R s m args below meth c H locs cells slots Q ad ls D cA ex A C hf hl hex hP hD hS hL hc hs hfin) (fun z => absurd rfl z)
end s_mc
section s_mw
variable {X : e_XT} {d : Nat} {K : e_KT} {pc ix b l t : Nat} {ll : e_LL} {st rest : List Value} {p : e_Sp} {I : e_I} {J : e_Jt} {c : Nat × Nat} {w : e_Rw1} {Q : e_Rt → e_SS → Prop} {x : Int32} {S : e_SS}
theorem w_acmpeq {off : Int} (ht : (pc : Int) + off = (t : Int)) (hd : decode K.2.2.1 pc = .ok (.if_acmp .eq off, 3)) (k : s_w X d K t ll rest S Q) : s_w X d K pc ll (.ref b :: .ref b :: rest) S Q := fun h hs => by
  obtain ⟨r, h', S', q, z, j⟩ := k h hs
  exact ⟨r, h', S', q, z, e_J.acmpeq ht hd j⟩
theorem w_acmpne {off : Int} (ht : (pc : Int) + off = (t : Int)) (hd : decode K.2.2.1 pc = .ok (.if_acmp .ne off, 3)) (k : s_w X d K (pc + 3) ll rest S Q) : s_w X d K pc ll (.ref b :: .ref b :: rest) S Q := fun h hs => by
  obtain ⟨r, h', S', q, z, j⟩ := k h hs
  exact ⟨r, h', S', q, z, e_J.acmpne ht hd j⟩
theorem w_ldcM (hK : K.1 = 25) (hd : decode K.2.2.1 pc = .ok (.ldc 110, 2)) (k : s_w X d K (pc + 2) ll (.ref (e_xb + 9) :: rest) S Q) : s_w X d K pc ll rest S Q := fun h hs => by
  obtain ⟨r, h', S', q, z, j⟩ := k h hs
  exact ⟨r, h', S', q, z, e_J.ldcM hK hd j⟩
theorem w_getC (hK : K.1 = 25) (hv : p.2.1 T_LARR l = true) (hcat : (rest.map fun v => v.category).sum ≤ 8) (hd : decode K.2.2.1 pc = .ok (.invokevirtual 86, 3)) (k : s_w X d K (pc + 3) ll (.ref (e_xb + 9) :: rest) (p, I, J, c, w) Q) : s_w X d K pc ll (.ref (p.1 T_LARR l) :: rest) (p, I, J, c, w) Q := fun h hs => by
  obtain ⟨r, h', S', q, z, j⟩ := k h hs
  obtain ⟨q1, q2, q3, -, -⟩ := hs.1.1 T_LARR l hv
  exact ⟨r, h', S', q, z, e_J.getC hK q2 q3 hcat hd j⟩
set_option maxRecDepth 100000 in
theorem w_getMC (ho : (K.1 = 3 ∧ ix = 63) ∨ (K.1 = 22 ∧ ix = 7)) (hv : p.2.1 T_LIST l = true) (hd : decode K.2.2.1 pc = .ok (.getfield ix, 3)) (k : s_w X d K (pc + 3) ll (.int (I f_l_modCount l) :: rest) (p, I, J, c, w) Q) : s_w X d K pc ll (.ref (p.1 T_LIST l) :: rest) (p, I, J, c, w) Q := fun h hs => by
  obtain ⟨r, h', S', q, z, j⟩ := k h hs
  obtain ⟨q1, q2, q3, -, -⟩ := hs.1.1 T_LIST l hv
  have h2 := hs.1.2.1 f_l_modCount l (by decide) (by show p.2.1 T_LIST (l / 1) = true; rw [Nat.div_one]; exact hv)
  have h2 : e_toI (e_v h (p.1 T_LIST (l / 1)) (0 + l % 1)) = I f_l_modCount l := h2
  rw [Nat.div_one, Nat.mod_one] at h2
  exact ⟨r, h', S', q, z, e_J.getMC ho q2 q3 hd (by rw [h2]; exact j)⟩
set_option maxRecDepth 100000 in
theorem w_putMC (ho : (K.1 = 3 ∧ ix = 63) ∨ (K.1 = 22 ∧ ix = 7)) (hv : p.2.1 T_LIST l = true) (hd : decode K.2.2.1 pc = .ok (.putfield ix, 3)) (k : s_w X d K (pc + 3) ll rest (p, s_up I f_l_modCount l x, J, c, w) Q) : s_w X d K pc ll (.int x :: .ref (p.1 T_LIST l) :: rest) (p, I, J, c, w) Q := fun h hs => by
  obtain ⟨q1, q2, q3, -, -⟩ := hs.1.1 T_LIST l hv
  have h2 := hs.1.setI (F := f_l_modCount) (i := l) (x := x) (by decide) (by show p.2.1 T_LIST (l / 1) = true; rw [Nat.div_one]; exact hv) (by decide)
  have h2 : e_rep p (s_up I f_l_modCount l x) J (e_set h (p.1 T_LIST (l / 1)) (0 + l % 1) (.int x)) := h2
  rw [Nat.div_one, Nat.mod_one] at h2
  obtain ⟨r, h', S', q, z, j⟩ := k _ ⟨h2, hs.2.1, hs.2.2.set hv⟩
  exact ⟨r, h', S', q, z, e_J.putMC ho q2 q3 hd j⟩
/-- the field of a list that is being made -/
theorem w_putMCr {f : Nat → Value} {ln : Nat} (ho : (K.1 = 3 ∧ ix = 63) ∨ (K.1 = 22 ∧ ix = 7)) (hw : S.2.2.2.2 b = some (3, ln, f)) (hd : decode K.2.2.1 pc = .ok (.putfield ix, 3)) (k : s_w X d K (pc + 3) ll rest (s_rs S b 3 ln (fun s' => if s' = 0 then .int x else f s')) Q) : s_w X d K pc ll (.int x :: .ref b :: rest) S Q := fun h hs => by
  obtain ⟨⟨g1, g2, g3, g4⟩, g5⟩ := hs.2.2 b _ hw
  obtain ⟨r, h', S', q, z, j⟩ := k _ (hs.rset (s := 0) (v := .int x) hw)
  exact ⟨r, h', S', q, z, e_J.putMC ho g1 g2 hd j⟩
end s_mw
