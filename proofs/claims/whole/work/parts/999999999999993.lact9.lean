/-! 999999999999993: calls on both sides: shares and means -/
def l_BF (X : e_XT) (T ax am ao ad d mi : Nat) (args : List Value) (k : Int32) (S1 : e_SS) : Prop := ∀ Q2 : e_Rt → e_SS → Prop, (∀ b S2, h_L (T + 1) ax am ao ad S2 → S2.2.1 f_m_thrown 0 = k → (k = 0 → e_n64 (FP.f2d b) = true ∧ ∃ f, S2.2.2.2.2 ad = some (104, 1, f) ∧ f 0 = .double (FP.f2d b)) → Q2 (.inl (some (.float b))) S2) → l_f am S1 ∧ s_c X d mi args S1 Q2
def l_BD (X : e_XT) (T ax am ao ad d mi : Nat) (args : List Value) (k : Int32) (S1 : e_SS) : Prop := ∀ Q2 : e_Rt → e_SS → Prop, (∀ b S2, h_L (T + 1) ax am ao ad S2 → S2.2.1 f_m_thrown 0 = k → (k = 0 → e_n64 b = true ∧ ∃ f, S2.2.2.2.2 ad = some (104, 1, f) ∧ f 0 = .double b) → Q2 (.inl (some (.double b))) S2) → l_f am S1 ∧ s_c X d mi args S1 Q2
theorem l_Wf.ok {ao : Nat} {tb : List (Nat × Int)} {Q : e_Rt → e_SS → Prop} {x : UInt32} {p : e_Sp} {I : e_I} {J : e_Jt} {c : Nat × Nat} {w : e_Rw1} {f : Nat → Value} (hn : e_n64 (FP.f2d x) = true) (hf : w ao = some (104, 1, f)) (hq : Q (.inl (some (.int 0))) (p, I, J, c, fun b => if b = ao then some (104, 1, fun s' => if s' = 0 then .double (FP.f2d x) else f s') else w b)) : l_Wf ao tb Q (.inl (some (.float x))) (p, I, J, c, w) := ⟨hn, f, hf, hq⟩
theorem l_Wd.ok {ao : Nat} {tb : List (Nat × Int)} {Q : e_Rt → e_SS → Prop} {x : UInt64} {p : e_Sp} {I : e_I} {J : e_Jt} {c : Nat × Nat} {w : e_Rw1} {f : Nat → Value} (hf : w ao = some (104, 1, f)) (hq : Q (.inl (some (.int 0))) (p, I, J, c, fun b => if b = ao then some (104, 1, fun s' => if s' = 0 then .double x else f s') else w b)) : l_Wd ao tb Q (.inl (some (.double x))) (p, I, J, c, w) := ⟨f, hf, hq⟩
theorem l_Wf.ex {ao E : Nat} {n : Int} {tb : List (Nat × Int)} {Q : e_Rt → e_SS → Prop} {S : e_SS} (h : (E, n) ∈ tb) (hq : Q (.inl (some (.int (Int32.ofInt n)))) S) : l_Wf ao tb Q (.inr E) S := ⟨n, h, hq⟩
theorem l_Wd.ex {ao E : Nat} {n : Int} {tb : List (Nat × Int)} {Q : e_Rt → e_SS → Prop} {S : e_SS} (h : (E, n) ∈ tb) (hq : Q (.inl (some (.int (Int32.ofInt n)))) S) : l_Wd ao tb Q (.inr E) S := ⟨n, h, hq⟩
theorem l_wo {ao ad : Nat} {w : e_Rw1} {o : Nat × Nat × (Nat → Value)} (hne : ao ≠ ad) (h : ∃ f, w ao = some (103, 1, f)) : ∃ f, (fun b => if b = ad then some o else w b) ao = some (103, 1, f) := by
  obtain ⟨f, hf⟩ := h
  exact ⟨f, by show (if ao = ad then some o else w ao) = _; rw [if_neg hne]; exact hf⟩
theorem v_f2d {x : UInt32} (h : FP.Core.decode FP.Core.b32 x.toNat ≠ .nan) : e_n64 (FP.f2d x) = true := by
  have h1 : FP.Core.fIsNaN x = false := by
    unfold FP.Core.fIsNaN FP.Core.isNaN
    exact decide_eq_false h
  unfold FP.f2d
  rw [h1]
  show e_n64 (.ofNat (FP.Core.encode FP.Core.b64 (FP.Core.round FP.Core.b64 (FP.Core.decode FP.Core.b32 x.toNat)))) = true
  refine v_n64 ?_
  generalize FP.Core.decode FP.Core.b32 x.toNat = d9 at h
  cases d9 with
  | nan => exact absurd rfl h
  | inf s => exact True.intro
  | fin s c q => exact v_okR (by decide) (by decide)
theorem v_encL {d : FP.Core.Datum} (h : v_okd FP.Core.b32 d) : FP.Core.encode FP.Core.b32 d < 2 ^ 32 := by
  obtain ⟨s, e, t, h1, h2, h3, h4⟩ := v_okE (T := 8388608) (E := 256) h (by decide) (by decide) (by decide) (by decide) (by decide) (by decide)
  rw [h1]
  omega
theorem v_fdivN {i : Int} {n : Nat} (h0 : 0 < n) (h : n < 1281) : e_n64 (FP.f2d (FP.fdiv (.ofNat (FP.Core.fromInt FP.Core.b32 i)) (.ofNat (FP.Core.fromInt FP.Core.b32 (n : Int))))) = true := by
  refine v_f2d ?_
  show FP.Core.decode FP.Core.b32 (UInt32.ofNat (FP.Core.encode FP.Core.b32 (FP.Core.quotient FP.Core.b32 (FP.Core.decode FP.Core.b32 (UInt32.ofNat (FP.Core.fromInt FP.Core.b32 i)).toNat) (FP.Core.decode FP.Core.b32 (UInt32.ofNat (FP.Core.fromInt FP.Core.b32 (n : Int))).toNat)))).toNat ≠ .nan
  rw [UInt32.toNat_ofNat_of_lt' v_lt32, UInt32.toNat_ofNat_of_lt' v_lt32]
  have hq := v_quo (f := FP.Core.b32) (x := FP.Core.decode FP.Core.b32 (FP.Core.fromInt FP.Core.b32 i)) (v_dec (T := 8388608) (E := 256) (v_okI (by decide) (by decide)) (by decide) (by decide) (by decide) (by decide) (by decide) (by decide)) (v_finE (v_den32 h0 h)) (by decide) (by decide)
  rw [UInt32.toNat_ofNat_of_lt' (v_encL hq)]
  exact v_dec (T := 8388608) (E := 256) hq (by decide) (by decide) (by decide) (by decide) (by decide) (by decide)
theorem v_share2 {p : e_Sp} {nk nr np n s m L : Nat} {t : Nat → Nat} {a b : e_I × e_Jt} (h : v_Sim p nk nr np n t s m L a b) (h0 : 0 < np) : e_n64 (FP.f2d (FP.fdiv (FP.i2f (a.1 f_speakers 0)) (FP.i2f (nI np)))) = true := by
  have := h.1.1.1.1.2.1
  rw [v_i2f (n := np) (by omega)]
  exact v_fdivN (i := (a.1 f_speakers 0).toInt) h0 (by omega)
set_option maxRecDepth 100000 in
set_option maxHeartbeats 400000 in
theorem lp_speakingShare {X : e_XT} {d T ax am ao ad : Nat} {p : e_Sp} {I : e_I} {J : e_Jt} {c : Nat × Nat} {w : e_Rw1} {Q : e_Rt → e_SS → Prop} (hX : (X 8).1 = 0) (hT : T < 512) (h : h_L T ax am ao ad (p, I, J, c, w)) (k : ∀ k' S1, l_BF X T ax am ao ad (d + 12) 320 [.ref am] k' S1 → Q (.inl (some (.int k'))) S1) : s_c X (d + 12) 371 [.ref ax, .ref ad] (p, I, J, c, w) Q := by
  obtain ⟨⟨nk, nr, np, n, t, s, m, od, ob, hQ⟩, ex, em, ho9, ⟨f, hf⟩, hne⟩ := h
  dsimp only at hQ ex em hf ho9
  have hN := hQ.nums (by omega)
  have hD := hQ.2.1
  have hp := hD.1.1
  have hS := hQ.1.1.1.1.1
  have hz : s_aps p nr = nI np := v_aps hS
  have hM := hQ.2.2.2.2.1.1
  have hnp : I f_m_pipes 0 = nI np := hM.2.2.2.1.2
  have h0 : ¬ nI np = 0 → 0 < np := fun z => by
    by_cases q : np = 0
    · rw [q] at z; exact absurd rfl z
    · omega
  have hsp : q_asp (q_an I) np = I f_speakers 0 := (v_spkA (hQ.1.thrown (x := 0))).symm
  have hsh : 0 < np → e_n32 (FP.fdiv (FP.i2f (I f_speakers 0)) (FP.i2f (nI np))) = true := fun z => by
    have q := v_share hQ.1 z
    dsimp only at q
    exact q
  have hs2 : 0 < np → e_n64 (FP.f2d (FP.fdiv (FP.i2f (I f_speakers 0)) (FP.i2f (nI np)))) = true := fun z => by
    have q := v_share2 hQ.1 z
    dsimp only at q
    exact q
  rw [← ex]
  refine c_L_speakingShare (d := d + 11) hp (c_X11_speakingShare (d := d + 7) hD (fun z => ?_) (fun z => ?_) (fun z => l_Wf.ex (n := 1) (by decide) (k 1 _ (fun Q2 k2 => ?_))))
  · rw [hz] at z ⊢
    exact hsh (h0 z)
  · rw [hz] at z ⊢
    refine l_Wf.ok (hs2 (h0 z)) hf (k 0 _ (fun Q2 k2 => ?_))
    obtain ⟨a2, b2, hG, ha2, hc2, hb2⟩ := hQ.G (by omega)
    refine ⟨l_fG hG em, ?_⟩
    rw [← em]
    refine c_X16_speakingShare (d := d + 11) hM (fun _ => ?_) (fun _ => k2 _ _ ?_ l_th (fun _ => ?_)) (fun w => absurd (hnp.symm.trans w) z)
    · rw [hsp, hnp]; exact hsh (h0 z)
    · exact h_L.of (w := w) (h_qry hQ) ex em (l_wo hne ho9) ⟨_, if_pos rfl⟩ hne
    · rw [hsp, hnp]
      exact ⟨hs2 (h0 z), _, if_pos rfl, if_pos rfl⟩
  · rw [hz] at z
    obtain ⟨a2, b2, hG, ha2⟩ := hQ.Gx (by omega)
    refine ⟨l_fG hG em, ?_⟩
    rw [← em]
    refine c_X16_speakingShare (d := d + 11) hM (fun w => absurd (hnp.trans z) w) (fun w => absurd (hnp.trans z) w) (fun _ => k2 _ _ ?_ l_th (fun z => absurd z (by decide)))
    exact h_L.of (w := w) (h_ref hQ) ex em ho9 ⟨f, hf⟩ hne
set_option maxRecDepth 100000 in
set_option maxHeartbeats 400000 in
theorem lp_meanPitch {X : e_XT} {d T ax am ao ad : Nat} {p : e_Sp} {I : e_I} {J : e_Jt} {c : Nat × Nat} {w : e_Rw1} {Q : e_Rt → e_SS → Prop} (hX : (X 8).1 = 0) (hT : T < 512) (h : h_L T ax am ao ad (p, I, J, c, w)) (k : ∀ k' S1, l_BD X T ax am ao ad (d + 12) 321 [.ref am] k' S1 → Q (.inl (some (.int k'))) S1) : s_c X (d + 12) 372 [.ref ax, .ref ad] (p, I, J, c, w) Q := by
  obtain ⟨⟨nk, nr, np, n, t, s, m, od, ob, hQ⟩, ex, em, ho9, ⟨f, hf⟩, hne⟩ := h
  dsimp only at hQ ex em hf ho9
  have hN := hQ.nums (by omega)
  have hD := hQ.2.1
  have hp := hD.1.1
  have hsp : q_asp I np = I f_speakers 0 := (v_spkA hQ.1).symm
  have hmn : ¬ I f_speakers 0 = 0 → FP.l2d (s_run (q_mps (q_bws nk np (q_an I))) 0 np 0) = FP.i2d (s_pts p I nr) := fun z => by
    have q := v_meanE hQ.1 hQ.2.2.2.2.1.2.2.1 z
    dsimp only at q
    exact q.symm
  have hok : ¬ I f_speakers 0 = 0 → e_n64 (FP.ddiv (FP.i2d (s_pts p I nr)) (FP.i2d (I f_speakers 0))) = true := fun z => by
    have q := v_mean (i := (s_pts p I nr).toInt) hQ.1 z
    dsimp only at q
    exact q
  rw [← ex]
  refine c_L_meanPitch (d := d + 11) hp (c_X11_meanPitch (d := d + 5) hD hok (fun z => l_Wd.ok hf (k 0 _ (fun Q2 k2 => ?_))) (fun z => l_Wd.ex (n := 1) (by decide) (k 1 _ (fun Q2 k2 => ?_))))
  · obtain ⟨a2, b2, hG, ha2, hc2, hb2⟩ := hQ.G (by omega)
    have hnp : 0 < np := by
      obtain ⟨k9, h9, e9⟩ := v_spkN hQ.1
      by_cases q : np = 0
      · obtain rfl : k9 = 0 := by omega
        exact absurd e9 z
      · omega
    have hbw : q_bws nk np (q_an I) = q_an I := v_bwsid (hQ.1.thrown (x := 0)).1.2.2.1 hnp
    refine ⟨l_fG hG em, ?_⟩
    rw [← em]
    refine c_X16_meanPitch (d := d + 7) hG hX (fun _ => ?_) (fun _ => k2 _ _ ?_ ?_ (fun _ => ?_)) (fun w => absurd (hsp.symm.trans w) z)
    · rw [hmn z, hsp]; exact hok z
    · rw [hbw]
      exact h_L.of (w := w) (h_qry hQ) ex em (l_wo hne ho9) ⟨_, if_pos rfl⟩ hne
    · rw [hbw]; exact l_th
    · rw [hmn z, hsp]
      exact ⟨hok z, _, if_pos rfl, if_pos rfl⟩
  · obtain ⟨a2, b2, hG, ha2⟩ := hQ.Gx (by omega)
    refine ⟨l_fG hG em, ?_⟩
    rw [← em]
    refine c_X16_meanPitch (d := d + 7) hG hX (fun w => absurd (hsp.trans z) w) (fun w => absurd (hsp.trans z) w) (fun _ => k2 _ _ ?_ l_th (fun z => absurd z (by decide)))
    exact h_L.of (w := w) (h_ref hQ) ex em ho9 ⟨f, hf⟩ hne
