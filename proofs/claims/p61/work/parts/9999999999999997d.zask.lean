/-! 9999999999999997d: what the law asks (printed by wip/p61/mkq.py) -/
set_option maxRecDepth 100000 in
set_option maxHeartbeats 400000 in
theorem q_isDown_ {X : e_XT} {d T e ax : Nat} {p : e_Sp} {I : e_I} {J : e_Jt} {c : Nat × Nat} {w : e_Rw1} {Q : e_Rt → e_SS → Prop} {x y : Int32} (h : z_O T e ax (p, I, J, c, w)) (hk : s_isk x y) (k : Q (.inl (some (.int (if bI (s_dn I x y) = 0 then 0 else 1)))) (p, I, J, c, w)) : s_c X (d + 11) 407 [.ref ax, .int (x), .int (y)] (p, I, J, c, w) Q := by
  have hD : s_D p I 9 3 := h.D
  have hax : p.1 T_HALL 0 = ax := h.ax
  rw [← hax]
  exact c_L_isDown (d := d + 10) hD.1.1 (c_X11_isDown (d := d + 8) hD.1.1 (fun _ => k) (fun z => absurd hk z))

set_option maxRecDepth 100000 in
set_option maxHeartbeats 400000 in
theorem q_isDrawn_ {X : e_XT} {d T e ax : Nat} {p : e_Sp} {I : e_I} {J : e_Jt} {c : Nat × Nat} {w : e_Rw1} {Q : e_Rt → e_SS → Prop} {j : Nat} (h : z_O T e ax (p, I, J, c, w)) (hj : j < 9) (hb : ∀ j, j < 9 → I f_k_isOut j = 0 ∨ I f_k_isOut j = 1) (k : Q (.inl (some (.int (if I f_k_isOut j = 0 then 0 else 1)))) (p, I, J, c, w)) : s_c X (d + 11) 409 [.ref ax, .int (nI j)] (p, I, J, c, w) Q := by
  have hD : s_D p I 9 3 := h.D
  have hax : p.1 T_HALL 0 = ax := h.ax
  rw [← hax]
  exact c_L_isDrawn (d := d + 10) hD.1.1 (c_X11_isDrawn (d := d + 5) hD.1 hb (fun jj hjj hxx => (h_kE hjj hj (by omega) hxx) ▸ k) (fun z => absurd (h_kj hj (by omega)) (h_kx z)))

set_option maxRecDepth 100000 in
set_option maxHeartbeats 400000 in
theorem q_isOn_ {X : e_XT} {d T e ax : Nat} {p : e_Sp} {I : e_I} {J : e_Jt} {c : Nat × Nat} {w : e_Rw1} {Q : e_Rt → e_SS → Prop} {j : Nat} (h : z_O T e ax (p, I, J, c, w)) (he : e ≤ 400) (hj : j < 9) (k : I f_k_kind j = 115 → Q (.inl (some (.int (if bI (s_so I j) = 0 then 0 else 1)))) (p, I, J, c, w)) (kx : ¬ I f_k_kind j = 115 → z_O T (e + 1) ax (p, I, J, (c.1 + 1, c.2 + 6), w) → Q (.inl (some (.int (-76)))) (p, I, J, (c.1 + 1, c.2 + 6), w)) : s_c X (d + 11) 442 [.ref ax, .int (nI j)] (p, I, J, c, w) Q := by
  have hD : s_D p I 9 3 := h.D
  have hax : p.1 T_HALL 0 = ax := h.ax
  rw [← hax]
  exact c_L_isOn (d := d + 10) hD.1.1 (c_X11_isOn (d := d + 5) hD.1 (fun jj hjj hxx hk => (h_kE hjj hj (by omega) hxx) ▸ k ((h_kE hjj hj (by omega) hxx) ▸ hk)) (fun z => absurd (h_kj hj (by omega)) (h_kx z)) (fun jj hjj hxx hk => ⟨_, by decide, kx ((h_kE hjj hj (by omega) hxx) ▸ hk) (h.ex he)⟩))

set_option maxRecDepth 100000 in
set_option maxHeartbeats 400000 in
theorem q_reasons_ {X : e_XT} {d T e ax : Nat} {p : e_Sp} {I : e_I} {J : e_Jt} {c : Nat × Nat} {w : e_Rw1} {Q : e_Rt → e_SS → Prop} {x y : Int32} (h : z_O T e ax (p, I, J, c, w)) (he : e ≤ 400) (k : ∀ j, s_pat p I 3 x y = some j → Q (.inl (some (.int (s_ar I j)))) (p, I, J, c, w)) (kx : s_pat p I 3 x y = none → z_O T (e + 1) ax (p, I, J, (c.1 + 1, c.2 + 6), w) → Q (.inl (some (.int (-77)))) (p, I, J, (c.1 + 1, c.2 + 6), w)) : s_c X (d + 11) 434 [.ref ax, .int (x), .int (y)] (p, I, J, c, w) Q := by
  have hD : s_D p I 9 3 := h.D
  have hax : p.1 T_HALL 0 = ax := h.ax
  rw [← hax]
  exact c_L_reasons (d := d + 10) hD.1.1 (c_X11_reasons (d := d + 5) hD (fun j hj => k j hj) (fun z => ⟨_, by decide, kx z (h.ex he)⟩))

set_option maxRecDepth 100000 in
set_option maxHeartbeats 400000 in
theorem q_reasonsAnew_ {X : e_XT} {d T e ax : Nat} {p : e_Sp} {I : e_I} {J : e_Jt} {c : Nat × Nat} {w : e_Rw1} {Q : e_Rt → e_SS → Prop} {x y : Int32} (h : z_O T e ax (p, I, J, c, w)) (he : e ≤ 400) (k : ∀ j, s_pat p I 3 x y = some j → Q (.inl (some (.int (s_ral p I 9 3 x y)))) (p, I, J, c, w)) (kx : s_pat p I 3 x y = none → z_O T (e + 1) ax (p, I, J, (c.1 + 1, c.2 + 6), w) → Q (.inl (some (.int (-77)))) (p, I, J, (c.1 + 1, c.2 + 6), w)) : s_c X (d + 11) 437 [.ref ax, .int (x), .int (y)] (p, I, J, c, w) Q := by
  have hD : s_D p I 9 3 := h.D
  have hax : p.1 T_HALL 0 = ax := h.ax
  rw [← hax]
  exact c_L_reasonsAnew (d := d + 10) hD.1.1 (c_X11_reasonsAnew (d := d + 5) hD (fun j hj => k j hj) (fun z => ⟨_, by decide, kx z (h.ex he)⟩))

set_option maxRecDepth 100000 in
set_option maxHeartbeats 400000 in
theorem q_begun_ {X : e_XT} {d T e ax : Nat} {p : e_Sp} {I : e_I} {J : e_Jt} {c : Nat × Nat} {w : e_Rw1} {Q : e_Rt → e_SS → Prop} {x y : Int32} (h : z_O T e ax (p, I, J, c, w)) (he : e ≤ 400) (k : ∀ j, s_pat p I 3 x y = some j → Q (.inl (some (.int (I f_p_begins j)))) (p, I, J, c, w)) (kx : s_pat p I 3 x y = none → z_O T (e + 1) ax (p, I, J, (c.1 + 1, c.2 + 6), w) → Q (.inl (some (.int (-77)))) (p, I, J, (c.1 + 1, c.2 + 6), w)) : s_c X (d + 11) 436 [.ref ax, .int (x), .int (y)] (p, I, J, c, w) Q := by
  have hD : s_D p I 9 3 := h.D
  have hax : p.1 T_HALL 0 = ax := h.ax
  rw [← hax]
  exact c_L_begun (d := d + 10) hD.1.1 (c_X11_begun (d := d + 5) hD (fun j hj => k j hj) (fun z => ⟨_, by decide, kx z (h.ex he)⟩))

set_option maxRecDepth 100000 in
set_option maxHeartbeats 400000 in
theorem q_pitch_ {X : e_XT} {d T e ax : Nat} {p : e_Sp} {I : e_I} {J : e_Jt} {c : Nat × Nat} {w : e_Rw1} {Q : e_Rt → e_SS → Prop} {x y : Int32} (h : z_O T e ax (p, I, J, c, w)) (he : e ≤ 400) (k : ∀ j, s_pat p I 3 x y = some j → Q (.inl (some (.int (s_pit p I 3 x y)))) (p, I, J, c, w)) (kx : s_pat p I 3 x y = none → z_O T (e + 1) ax (p, I, J, (c.1 + 1, c.2 + 6), w) → Q (.inl (some (.int (-77)))) (p, I, J, (c.1 + 1, c.2 + 6), w)) : s_c X (d + 11) 438 [.ref ax, .int (x), .int (y)] (p, I, J, c, w) Q := by
  have hD : s_D p I 9 3 := h.D
  have hax : p.1 T_HALL 0 = ax := h.ax
  rw [← hax]
  exact c_L_pitch (d := d + 10) hD.1.1 (c_X11_pitch (d := d + 5) hD (fun j hj => k j hj) (fun z => ⟨_, by decide, kx z (h.ex he)⟩))

set_option maxRecDepth 100000 in
set_option maxHeartbeats 400000 in
theorem q_speaks_ {X : e_XT} {d T e ax : Nat} {p : e_Sp} {I : e_I} {J : e_Jt} {c : Nat × Nat} {w : e_Rw1} {Q : e_Rt → e_SS → Prop} {x y : Int32} (h : z_O T e ax (p, I, J, c, w)) (he : e ≤ 400) (hb : ∀ j, I f_p_isSpeaking j = 0 ∨ I f_p_isSpeaking j = 1) (k : ∀ j, s_pat p I 3 x y = some j → Q (.inl (some (.int (if I f_p_isSpeaking j = 0 then 0 else 1)))) (p, I, J, c, w)) (kx : s_pat p I 3 x y = none → z_O T (e + 1) ax (p, I, J, (c.1 + 1, c.2 + 6), w) → Q (.inl (some (.int (-77)))) (p, I, J, (c.1 + 1, c.2 + 6), w)) : s_c X (d + 11) 435 [.ref ax, .int (x), .int (y)] (p, I, J, c, w) Q := by
  have hD : s_D p I 9 3 := h.D
  have hax : p.1 T_HALL 0 = ax := h.ax
  rw [← hax]
  exact c_L_speaks (d := d + 10) hD.1.1 (c_X11_speaks (d := d + 5) hD hb (fun j hj => k j hj) (fun z => ⟨_, by decide, kx z (h.ex he)⟩))

set_option maxRecDepth 100000 in
set_option maxHeartbeats 400000 in
theorem q_isOpen_ {X : e_XT} {d T e ax : Nat} {p : e_Sp} {I : e_I} {J : e_Jt} {c : Nat × Nat} {w : e_Rw1} {Q : e_Rt → e_SS → Prop} {x y : Int32} (h : z_O T e ax (p, I, J, c, w)) (he : e ≤ 400) (hb : ∀ j, I f_p_isOpened j = 0 ∨ I f_p_isOpened j = 1) (k : ∀ j, s_pat p I 3 x y = some j → Q (.inl (some (.int (if I f_p_isOpened j = 0 then 0 else 1)))) (p, I, J, c, w)) (kx : s_pat p I 3 x y = none → z_O T (e + 1) ax (p, I, J, (c.1 + 1, c.2 + 6), w) → Q (.inl (some (.int (-77)))) (p, I, J, (c.1 + 1, c.2 + 6), w)) : s_c X (d + 11) 444 [.ref ax, .int (x), .int (y)] (p, I, J, c, w) Q := by
  have hD : s_D p I 9 3 := h.D
  have hax : p.1 T_HALL 0 = ax := h.ax
  rw [← hax]
  exact c_L_isOpen (d := d + 10) hD.1.1 (c_X11_isOpen (d := d + 5) hD hb (fun j hj => k j hj) (fun z => ⟨_, by decide, kx z (h.ex he)⟩))

set_option maxRecDepth 100000 in
set_option maxHeartbeats 400000 in
theorem q_wind_ {X : e_XT} {d T e ax : Nat} {p : e_Sp} {I : e_I} {J : e_Jt} {c : Nat × Nat} {w : e_Rw1} {Q : e_Rt → e_SS → Prop} {j : Nat} (h : z_O T e ax (p, I, J, c, w)) (hj : j < 3) (k : Q (.inl (some (.int (I f_a_winds j)))) (p, I, J, c, w)) : s_c X (d + 11) 433 [.ref ax, .int (nI j)] (p, I, J, c, w) Q := by
  have hD : s_D p I 9 3 := h.D
  have hax : p.1 T_HALL 0 = ax := h.ax
  rw [← hax]
  exact c_L_wind (d := d + 10) hD.1.1 (c_X11_wind (d := d + 8) hD.1.1 (fun _ => by rw [nI_clamp (show j < 2 ^ 31 by omega)]; exact k) (fun z => absurd (z_dv hj) (by rw [z]; decide)))

set_option maxRecDepth 100000 in
set_option maxHeartbeats 400000 in
theorem q_isOnRelay_ {X : e_XT} {d T e ax : Nat} {p : e_Sp} {I : e_I} {J : e_Jt} {c : Nat × Nat} {w : e_Rw1} {Q : e_Rt → e_SS → Prop} {r : Nat} (h : z_O T e ax (p, I, J, c, w)) (hr : r < 16) (k : Q (.inl (some (.int (if bI (s_ro I (nI r)) = 0 then 0 else 1)))) (p, I, J, c, w)) : s_c X (d + 11) 417 [.ref ax, .int (nI r)] (p, I, J, c, w) Q := by
  have hD : s_D p I 9 3 := h.D
  have hax : p.1 T_HALL 0 = ax := h.ax
  rw [← hax]
  exact c_L_isOnRelay (d := d + 10) hD.1.1 (c_X11_isOnRelay (d := d + 9) hD.1.1 (fun _ => k) (fun z => absurd (h_kj hr (by omega)) z))

set_option maxRecDepth 100000 in
set_option maxHeartbeats 400000 in
theorem q_hunt_ {X : e_XT} {d T e ax : Nat} {p : e_Sp} {I : e_I} {J : e_Jt} {c : Nat × Nat} {w : e_Rw1} {Q : e_Rt → e_SS → Prop} {r : Nat} (h : z_O T e ax (p, I, J, c, w)) (hr : r < 3) (h1 : ∀ r, r < 3 → 1 ≤ p.2.2.1 T_PARR r) (k : Q (.inl (some (.int (s_tri p I r)))) (p, I, J, c, w)) : s_c X (d + 11) 425 [.ref ax, .int (nI r)] (p, I, J, c, w) Q := by
  have hD : s_D p I 9 3 := h.D
  have hax : p.1 T_HALL 0 = ax := h.ax
  rw [← hax]
  exact c_L_hunt (d := d + 10) hD.1.1 (c_X11_hunt (d := d) hD h1 (fun rr hrr hxx => (h_kE hrr hr (by omega) hxx) ▸ k) (fun z => absurd (h_kj hr (by omega)) (h_kx z)))

set_option maxRecDepth 100000 in
set_option maxHeartbeats 400000 in
theorem q_speaking_ {X : e_XT} {d T e ax : Nat} {p : e_Sp} {I : e_I} {J : e_Jt} {c : Nat × Nat} {w : e_Rw1} {Q : e_Rt → e_SS → Prop} (h : z_O T e ax (p, I, J, c, w))  (k : Q (.inl (some (.int (I f_speakers 0)))) (p, I, J, c, w)) : s_c X (d + 11) 135 [.ref ax] (p, I, J, c, w) Q := by
  have hD : s_D p I 9 3 := h.D
  have hax : p.1 T_HALL 0 = ax := h.ax
  rw [← hax]
  exact c_X11_speaking (d := d + 11) hD.1.1 k

set_option maxRecDepth 100000 in
set_option maxHeartbeats 400000 in
theorem q_ended_ {X : e_XT} {d T e ax : Nat} {p : e_Sp} {I : e_I} {J : e_Jt} {c : Nat × Nat} {w : e_Rw1} {Q : e_Rt → e_SS → Prop} (h : z_O T e ax (p, I, J, c, w))  (k : Q (.inl (some (.long (J j_allEnds 0)))) (p, I, J, c, w)) : s_c X (d + 11) 136 [.ref ax] (p, I, J, c, w) Q := by
  have hD : s_D p I 9 3 := h.D
  have hax : p.1 T_HALL 0 = ax := h.ax
  rw [← hax]
  exact c_X11_ended (d := d + 11) hD.1.1 k

set_option maxRecDepth 100000 in
set_option maxHeartbeats 400000 in
theorem q_loudness_ {X : e_XT} {d T e ax : Nat} {p : e_Sp} {I : e_I} {J : e_Jt} {c : Nat × Nat} {w : e_Rw1} {Q : e_Rt → e_SS → Prop} (h : z_O T e ax (p, I, J, c, w))  (k : Q (.inl (some (.int (s_als p I 3)))) (p, I, J, c, w)) : s_c X (d + 11) 137 [.ref ax] (p, I, J, c, w) Q := by
  have hD : s_D p I 9 3 := h.D
  have hax : p.1 T_HALL 0 = ax := h.ax
  rw [← hax]
  exact c_X11_loudness (d := d + 7) hD k

set_option maxRecDepth 100000 in
set_option maxHeartbeats 400000 in
theorem q_isTrue_ {X : e_XT} {d T e ax : Nat} {p : e_Sp} {I : e_I} {J : e_Jt} {c : Nat × Nat} {w : e_Rw1} {Q : e_Rt → e_SS → Prop} (h : z_O T e ax (p, I, J, c, w))  (k : Q (.inl (some (.int (bI (s_con p I 9 3))))) (p, I, J, c, w)) : s_c X (d + 11) 142 [.ref ax] (p, I, J, c, w) Q := by
  have hD : s_D p I 9 3 := h.D
  have hax : p.1 T_HALL 0 = ax := h.ax
  rw [← hax]
  exact c_X11_isTrue (d := d + 5) hD k

set_option maxRecDepth 100000 in
set_option maxHeartbeats 400000 in
theorem q_recorded_ {X : e_XT} {d T e ax : Nat} {p : e_Sp} {I : e_I} {J : e_Jt} {c : Nat × Nat} {w : e_Rw1} {Q : e_Rt → e_SS → Prop} (h : z_O T e ax (p, I, J, c, w))  (k : Q (.inl (some (.int (I f_tsize 0)))) (p, I, J, c, w)) : s_c X (d + 11) 141 [.ref ax] (p, I, J, c, w) Q := by
  have hD : s_D p I 9 3 := h.D
  have hax : p.1 T_HALL 0 = ax := h.ax
  rw [← hax]
  exact c_X11_recorded (d := d + 11) hD.1.1 k

set_option maxRecDepth 100000 in
set_option maxHeartbeats 400000 in
theorem q_speakingShare_ {X : e_XT} {d T e ax : Nat} {p : e_Sp} {I : e_I} {J : e_Jt} {c : Nat × Nat} {w : e_Rw1} {Q : e_Rt → e_SS → Prop} (h : z_O T e ax (p, I, J, c, w)) (hn : e_n32 (FP.fdiv (FP.i2f (I f_speakers 0)) (FP.i2f (s_aps p 3))) = true) (h0 : ¬ s_aps p 3 = 0) (k : Q (.inl (some (.float (FP.fdiv (FP.i2f (I f_speakers 0)) (FP.i2f (s_aps p 3)))))) (p, I, J, c, w)) : s_c X (d + 11) 439 [.ref ax] (p, I, J, c, w) Q := by
  have hD : s_D p I 9 3 := h.D
  have hax : p.1 T_HALL 0 = ax := h.ax
  rw [← hax]
  exact c_L_speakingShare (d := d + 10) hD.1.1 (c_X11_speakingShare (d := d + 6) hD (fun _ => hn) (fun _ => k) (fun z => absurd z h0))

set_option maxRecDepth 100000 in
set_option maxHeartbeats 400000 in
theorem q_meanPitch_ {X : e_XT} {d T e ax : Nat} {p : e_Sp} {I : e_I} {J : e_Jt} {c : Nat × Nat} {w : e_Rw1} {Q : e_Rt → e_SS → Prop} (h : z_O T e ax (p, I, J, c, w)) (he : e ≤ 400) (hn : ¬ I f_speakers 0 = 0 → e_n64 (FP.ddiv (FP.i2d (s_pts p I 3)) (FP.i2d (I f_speakers 0))) = true) (k : ¬ I f_speakers 0 = 0 → Q (.inl (some (.double (FP.ddiv (FP.i2d (s_pts p I 3)) (FP.i2d (I f_speakers 0)))))) (p, I, J, c, w)) (kx : I f_speakers 0 = 0 → z_O T (e + 1) ax (p, I, J, (c.1 + 1, c.2 + 6), w) → Q (.inl (some (.double 13858279740860792832))) (p, I, J, (c.1 + 1, c.2 + 6), w)) : s_c X (d + 11) 440 [.ref ax] (p, I, J, c, w) Q := by
  have hD : s_D p I 9 3 := h.D
  have hax : p.1 T_HALL 0 = ax := h.ax
  rw [← hax]
  exact c_L_meanPitch (d := d + 10) hD.1.1 (c_X11_meanPitch (d := d + 4) hD hn (fun z => k z) (fun z => ⟨_, by decide, kx z (h.ex he)⟩))

