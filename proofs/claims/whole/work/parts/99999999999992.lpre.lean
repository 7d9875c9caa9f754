/-! 99999999999992: what the law's loop holds; how a call on both sides is told -/
def h_L (T ax am ao ad : Nat) (S : e_SS) : Prop := (∃ nk nr np n, ∃ t : Nat → Nat, ∃ s m od ob, h_Q T S.1 (S.2.1, S.2.2.1) S.2.1 S.2.2.1 S.2.2.2.1 nk nr np n t s m od ob) ∧ S.1.1 T_HALL 0 = ax ∧ S.1.1 T_MODEL 0 = am ∧ (∃ f, S.2.2.2.2 ao = some (103, 1, f)) ∧ (∃ f, S.2.2.2.2 ad = some (104, 1, f)) ∧ ao ≠ ad
/-- what the law reads between the two calls -/
def l_f (am : Nat) (S : e_SS) : Prop := S.1.1 T_MODEL 0 = am ∧ S.1.2.1 T_MODEL 0 = true ∧ S.2.2.2.1.1 < e_xb
theorem l_fG {p : e_Sp} {I I2 : e_I} {J : e_Jt} {c : Nat × Nat} {w : e_Rw1} {nk nr np a b n am : Nat} (hG : q_G p I c nk nr np a b n) (em : p.1 T_MODEL 0 = am) : l_f am (p, I2, J, c, w) := by
  refine ⟨em, hG.1.1.1 T_MODEL rfl, ?_⟩
  obtain ⟨g, -, h1, -, h2⟩ := hG.2.2.2.2.2.1.2.2.2
  have h3 := hG.2.2.2.2.2.2.1
  have hx : e_xb = 4294967296 := rfl
  have hg : g ≤ 61 := by
    by_cases hg : g ≤ 61
    · exact hg
    exfalso
    have g1 : q_cs 60 ≤ q_cs (g - 1) := q_cs_m (by omega)
    have g2 : 4294960000 ≤ q_cs 60 := by decide +kernel
    omega
  show c.1 < e_xb
  omega
/-- the reference's half: whatever follows a call that ends well follows here -/
def l_BI (X : e_XT) (T ax am ao ad d mi : Nat) (args : List Value) (k : Int32) (S1 : e_SS) : Prop := ∀ Q2 : e_Rt → e_SS → Prop, (∀ b S2, h_L (T + 1) ax am ao ad S2 → S2.2.1 f_m_thrown 0 = k → (k = 0 → ∃ f, S2.2.2.2.2 ao = some (103, 1, f) ∧ f 0 = .long b.toInt64) → Q2 (.inl (some (.int b))) S2) → l_f am S1 ∧ s_c X d mi args S1 Q2
def l_BB (X : e_XT) (T ax am ao ad d mi : Nat) (args : List Value) (k : Int32) (S1 : e_SS) : Prop := ∀ Q2 : e_Rt → e_SS → Prop, (∀ b S2, h_L (T + 1) ax am ao ad S2 → S2.2.1 f_m_thrown 0 = k → (k = 0 → ∃ f, S2.2.2.2.2 ao = some (103, 1, f) ∧ f 0 = .long (if b = 0 then 0 else 1)) → Q2 (.inl (some (.int b))) S2) → l_f am S1 ∧ s_c X d mi args S1 Q2
/-- the reference's half where the class throws nothing: the answers are the same -/
def l_BV (X : e_XT) (T ax am ao ad d mi : Nat) (args : List Value) (v : Value) (S1 : e_SS) : Prop := ∀ Q2 : e_Rt → e_SS → Prop, (∀ S2, h_L (T + 1) ax am ao ad S2 → Q2 (.inl (some v)) S2) → l_f am S1 ∧ s_c X d mi args S1 Q2
theorem l_Wi.ok {ao : Nat} {tb : List (Nat × Int)} {Q : e_Rt → e_SS → Prop} {x : Int32} {p : e_Sp} {I : e_I} {J : e_Jt} {c : Nat × Nat} {w : e_Rw1} {f : Nat → Value} (hf : w ao = some (103, 1, f)) (hq : Q (.inl (some (.int 0))) (p, I, J, c, fun b => if b = ao then some (103, 1, fun s' => if s' = 0 then .long x.toInt64 else f s') else w b)) : l_Wi ao tb Q (.inl (some (.int x))) (p, I, J, c, w) := ⟨f, hf, hq⟩
theorem l_Wb.ok {ao : Nat} {tb : List (Nat × Int)} {Q : e_Rt → e_SS → Prop} {x : Int32} {p : e_Sp} {I : e_I} {J : e_Jt} {c : Nat × Nat} {w : e_Rw1} {f : Nat → Value} (hf : w ao = some (103, 1, f)) (hq : Q (.inl (some (.int 0))) (p, I, J, c, fun b => if b = ao then some (103, 1, fun s' => if s' = 0 then .long (if x = 0 then 0 else 1) else f s') else w b)) : l_Wb ao tb Q (.inl (some (.int x))) (p, I, J, c, w) := ⟨f, hf, hq⟩
theorem l_Wi.ex {ao E : Nat} {n : Int} {tb : List (Nat × Int)} {Q : e_Rt → e_SS → Prop} {S : e_SS} (h : (E, n) ∈ tb) (hq : Q (.inl (some (.int (Int32.ofInt n)))) S) : l_Wi ao tb Q (.inr E) S := ⟨n, h, hq⟩
theorem l_Wb.ex {ao E : Nat} {n : Int} {tb : List (Nat × Int)} {Q : e_Rt → e_SS → Prop} {S : e_SS} (h : (E, n) ∈ tb) (hq : Q (.inl (some (.int (Int32.ofInt n)))) S) : l_Wb ao tb Q (.inr E) S := ⟨n, h, hq⟩
/-- what the loop holds, told anew -/
theorem h_L.of {T ax am ao ad : Nat} {p : e_Sp} {I : e_I} {J : e_Jt} {c : Nat × Nat} {w w1 : e_Rw1} {nk nr np n s m od ob : Nat} {t : Nat → Nat} (h : h_Q T p (I, J) I J c nk nr np n t s m od ob) (e1 : p.1 T_HALL 0 = ax) (e2 : p.1 T_MODEL 0 = am) (hw : ∃ f, w1 ao = some (103, 1, f)) (hd : ∃ f, w1 ad = some (104, 1, f)) (hne : ao ≠ ad) : h_L T ax am ao ad (p, I, J, c, w1) := ⟨⟨nk, nr, np, n, t, s, m, od, ob, h⟩, e1, e2, hw, hd, hne⟩
theorem l_wd {ao ad : Nat} {w : e_Rw1} {o : Nat × Nat × (Nat → Value)} (hne : ao ≠ ad) (h : ∃ f, w ad = some (104, 1, f)) : ∃ f, (fun b => if b = ao then some o else w b) ad = some (104, 1, f) := by
  obtain ⟨f, hf⟩ := h
  exact ⟨f, by show (if ad = ao then some o else w ad) = _; rw [if_neg (Ne.symm hne)]; exact hf⟩
theorem h_Q.G {T : Nat} {p : e_Sp} {a : e_I × e_Jt} {I : e_I} {J : e_Jt} {c : Nat × Nat} {nk nr np n : Nat} {t : Nat → Nat} {s m od ob : Nat} (h : h_Q T p a I J c nk nr np n t s m od ob) (hT : T ≤ 512) : ∃ a' b', q_G p I c nk nr np a' b' n ∧ a' ≤ 800000 ∧ c.1 ≤ 800000 ∧ ∀ p' I' c' n' x y, h_xT p p' → I' f_tsize = I f_tsize → I' f_entries = I f_entries → q_L p' I' c' (a' + x) (b' + y) n' → h_R p' I' c' (od + x) (ob + y) n' := by
  have hN := h.nums hT
  obtain ⟨h1, h2, h3, h4, h5, h6, h7⟩ := h
  obtain ⟨a', b', hL, ha, hc, hb⟩ := h6.ql (by omega)
  exact ⟨a', b', ⟨h5.1, hN.2.1.1, h1.1.1.2.1.2.2.2.1, h1.2.2.2.2.2.1.2.1 _ (by decide), h1.2.2.2.2.2.1.2.1 _ (by decide), hL, by omega, by omega⟩, ha, hc, hb⟩
/-- an act on the reference's side that settles -/
theorem h_act {T : Nat} {p p2 : e_Sp} {R B : e_I} {RJ BJ : e_Jt} {a : e_I × e_Jt} {c c2 : Nat × Nat} {nk nr np n n2 n' : Nat} {t t' : Nat → Nat} {s m od ob od' ob' : Nat} {TB : List Nat} {v : Int32} (hT : T < 512) (h : h_Q T p a R RJ c nk nr np n t s m od ob) (hx : q_X p p2) (e : s_eqN TB R B) (hTB : v_dj h_tM TB = true) (hTB2 : v_dj (f_l_size :: f_m_recording :: f_m_isCalled :: f_mk_kind :: f_mk_rows :: v_covM) TB = true) (ej : ∀ F, h_JC.contains F = true → BJ F = RJ F) (hSB : h_SB p B nk nr np) (hno : ¬ R f_m_recording 0 = 114 → n' = n) (hn' : n' ≤ 1000000) (hs : v_Sim p nk nr np n' t' s m T (R, RJ) (q_st nk nr np (B, BJ))) (hL : (q_st nk nr np (B, BJ)).1 f_l_size 4 = nI n2) (hn2 : n2 ≤ 1000000) (hR : h_R p2 (s_up (q_st nk nr np (B, BJ)).1 f_m_thrown 0 v) c2 od' ob' n2) (hod : od' ≤ od + 2) (hob : ob' ≤ ob + 40) : h_Q (T + 1) p2 (s_up (q_st nk nr np (B, BJ)).1 f_m_thrown 0 v, (q_st nk nr np (B, BJ)).2) (s_up (q_st nk nr np (B, BJ)).1 f_m_thrown 0 v) (q_st nk nr np (B, BJ)).2 c2 nk nr np n2 t' s m od' ob' := by
  have hN := h.nums (by omega)
  have el : B f_l_size = R f_l_size := e _ (v_dj.o hTB2 (by decide))
  have er : B f_m_recording = R f_m_recording := e _ (v_dj.o hTB2 (by decide))
  have hle := v_Sim.nle h.1 hs e (h_sub hTB2 (by decide)) (by rw [el]) (by rw [er]; exact hno) (by omega) (by omega)
  have hnn : n2 = n' := by
    have g := hs.1.1.2.2.1.2.1.1.2.1
    rw [hL] at g
    exact (nI_eq (by omega) (by omega)).mp g
  have hWn : v_Wn B nk = v_Wn R nk := h_Wn.N e (h_sub hTB2 (by decide))
  refine h_end h hx.hN e hTB (fun l _ => by rw [el]) ej hSB hs (by omega) hL ⟨by omega, by omega⟩ hR ?_
  rw [hWn]
  exact h.2.2.2.2.2.2.q (by omega) (by omega) (by omega)
