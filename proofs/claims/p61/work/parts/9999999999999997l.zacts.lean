/-! 9999999999999997l: the law's acts, case by case (printed by wip/p61/mkl.py) -/
theorem z_abs3 {x : Int32} (h : v_in x (-300) 300) : ¬ s_abs x > 300 := by
  have h1 : -300 ≤ x := Int32.le_iff_toInt_le.mpr h.1
  have h2 : x ≤ 300 := Int32.le_iff_toInt_le.mpr h.2
  unfold s_abs
  grind
set_option maxRecDepth 100000 in
set_option maxHeartbeats 400000 in
theorem c_isStep {X : e_XT} {d T e ax : Nat} {p : e_Sp} {I : e_I} {J : e_Jt} {c : Nat × Nat} {w : e_Rw1} {Q : e_Rt → e_SS → Prop} (hT : T < 500) (he : e ≤ 390) (h : z_O T e ax (p, I, J, c, w)) (k : ∀ p' c' A JA, A f_isTutti 0 = I f_isTutti 0 → z_O (T + 1) 0 ax (p', A, JA, c', w) → Q (.inl (some (.int 1))) (p', A, JA, c', w)) : s_c X (d + 12) 431 [.ref ax] (p, I, J, c, w) Q := by
  refine m_L_isStep (Nat.le_of_ble_eq_true rfl) ?_
  show s_w X (d + 12) K_L_isStep 0 [some (.ref ax), none] [] (p, I, J, c, w) _
  refine w_op (K := K_L_isStep) (pc' := 1) (ll' := [some (.ref ax), none]) (st' := [.ref ax]) dL_isStep_0 rfl ?_
  refine l_callH (K := K_L_isStep) (As := []) (rest := []) dL_isStep_1 rfl rM_X11_step (by decide) rfl rfl (by decide) rfl (Nat.le_of_ble_eq_true rfl) h.hf (g_step hT he h (fun p1 c1 A1 JA1 v1 hv1 e1 h1 => ?_))
  show s_w _ _ _ 4 _ _ _ _
  refine w_op (K := K_L_isStep) (pc' := 5) (ll' := [some (.ref ax), some (.int (nI v1))]) (st' := []) dL_isStep_4 rfl ?_
  refine w_op (K := K_L_isStep) (pc' := 6) (ll' := [some (.ref ax), some (.int (nI v1))]) (st' := [.int (nI v1)]) dL_isStep_5 rfl ?_
  refine w_iflt (K := K_L_isStep) (t := 19) dL_isStep_6 (by decide) (fun c6 => ?_) (fun c6 => ?_)
  · exact absurd c6 (nI_pos (by omega))
  · refine w_op (K := K_L_isStep) (pc' := 10) (ll' := [some (.ref ax), some (.int (nI v1))]) (st' := [.int (nI v1)]) dL_isStep_9 rfl ?_
    refine w_bipush (K := K_L_isStep) (v := (nI 8)) dL_isStep_10 rfl ?_
    refine w_icmpge (K := K_L_isStep) (t := 19) dL_isStep_12 (by decide) (fun c12 => ?_) (fun c12 => ?_)
    · exact absurd c12 (Int32.not_le.mpr ((nI_ltI (by omega) (by decide)).mpr hv1))
    · refine w_iconst (K := K_L_isStep) (v := 1) dL_isStep_15 rfl ?_
      refine w_goto (K := K_L_isStep) (t := 20) dL_isStep_16 (by decide) ?_
      refine w_ireturn (K := K_L_isStep) dL_isStep_20 ?_
      exact ⟨rfl, k _ _ _ _ e1 h1⟩

set_option maxRecDepth 100000 in
set_option maxHeartbeats 400000 in
theorem ac_128 {X : e_XT} {d T e ax k9 a9 b9 c9 : Nat} {p : e_Sp} {I : e_I} {J : e_Jt} {c : Nat × Nat} {w : e_Rw1} {Q : e_Rt → e_SS → Prop} {x6 x7 x8 : Option Value} (hT : T + 7 ≤ 500) (he : e ≤ 390) (h : z_O T e ax (p, I, J, c, w)) (ha : a9 < 30) (hb : b9 < 3) (hc : c9 < 9) (hX : v_X X) (kk : ∀ p' c' A JA, z_O (T + 6) 0 ax (p', A, JA, c', w) → Q (.inl (some (.int 1))) (p', A, JA, c', w)) : s_w X (d + 13) K_L_acts 128 [some (.ref ax), some (.ref (e_xb + 0)), some (.int (nI k9)), some (.int (nI a9)), some (.int (nI b9)), some (.int (nI c9)), x6, x7, x8] [] (p, I, J, c, w) (fun r S' => e_rcr (some FieldType.boolean) r = true ∧ Q r S') := by
  obtain ⟨np, I', J', hQ⟩ := h.q
  refine w_op (K := K_L_acts) (pc' := 129) (ll' := [some (.ref ax), some (.ref (e_xb + 0)), some (.int (nI k9)), some (.int (nI a9)), some (.int (nI b9)), some (.int (nI c9)), x6, x7, x8]) (st' := [.ref ax]) dL_acts_128 rfl ?_
  refine w_op (K := K_L_acts) (pc' := 131) (ll' := [some (.ref ax), some (.ref (e_xb + 0)), some (.int (nI k9)), some (.int (nI a9)), some (.int (nI b9)), some (.int (nI c9)), x6, x7, x8]) (st' := [.int (nI b9), .ref ax]) dL_acts_129 rfl ?_
  refine w_op (K := K_L_acts) (pc' := 132) (ll' := [some (.ref ax), some (.ref (e_xb + 0)), some (.int (nI k9)), some (.int (nI a9)), some (.int (nI b9)), some (.int (nI c9)), x6, x7, x8]) (st' := [.int (nI a9), .int (nI b9), .ref ax]) dL_acts_131 rfl ?_
  refine w_op (K := K_L_acts) (pc' := 134) (ll' := [some (.ref ax), some (.ref (e_xb + 0)), some (.int (nI k9)), some (.int (nI a9)), some (.int (nI b9)), some (.int (nI c9)), x6, x7, x8]) (st' := [.int (nI c9), .int (nI a9), .int (nI b9), .ref ax]) dL_acts_132 rfl ?_
  refine w_iconst (K := K_L_acts) (v := 2) dL_acts_134 rfl ?_
  refine w_icmple (K := K_L_acts) (t := 142) dL_acts_135 (by decide) (fun c135 => ?_) (fun c135 => ?_)
  · refine w_iconst (K := K_L_acts) (v := 0) dL_acts_142 rfl ?_
    refine t_callS (K := K_L_acts) (As := [.ref ax, .int (nI b9), .int (nI a9), .int 0]) (rest := []) dL_acts_143 rfl rM_L_key (by decide) rfl rfl (by decide) (Nat.le_of_ble_eq_true rfl) (g_key (by omega) he h (z_isk hb (show a9 < 61 by omega) (fun _ => by omega)).1 (Or.inl rfl) (fun p1 c1 h1 => ?_))
    show s_w _ _ _ 146 _ _ _ _
    refine w_iflt (K := K_L_acts) (t := 174) dL_acts_146 (by decide) (fun c146 => ?_) (fun c146 => ?_)
    · exact absurd c146 z_i01
    · refine w_op (K := K_L_acts) (pc' := 150) (ll' := [some (.ref ax), some (.ref (e_xb + 0)), some (.int (nI k9)), some (.int (nI a9)), some (.int (nI b9)), some (.int (nI c9)), x6, x7, x8]) (st' := [.ref ax]) dL_acts_149 rfl ?_
      refine w_op (K := K_L_acts) (pc' := 152) (ll' := [some (.ref ax), some (.ref (e_xb + 0)), some (.int (nI k9)), some (.int (nI a9)), some (.int (nI b9)), some (.int (nI c9)), x6, x7, x8]) (st' := [.int (nI b9), .ref ax]) dL_acts_150 rfl ?_
      refine w_op (K := K_L_acts) (pc' := 153) (ll' := [some (.ref ax), some (.ref (e_xb + 0)), some (.int (nI k9)), some (.int (nI a9)), some (.int (nI b9)), some (.int (nI c9)), x6, x7, x8]) (st' := [.int (nI a9), .int (nI b9), .ref ax]) dL_acts_152 rfl ?_
      refine t_callS (K := K_L_acts) (As := [.ref ax, .int (nI b9), .int (nI a9)]) (rest := []) dL_acts_153 rfl rM_L_isDown (by decide) rfl rfl (by decide) (Nat.le_of_ble_eq_true rfl) (q_isDown_ h1 (z_isk hb (show a9 < 61 by omega) (fun _ => by omega)).1 ?_)
      show s_w _ _ _ 156 _ _ _ _
      refine w_op (K := K_L_acts) (pc' := 158) (ll' := [some (.ref ax), some (.ref (e_xb + 0)), some (.int (nI k9)), some (.int (nI a9)), some (.int (nI b9)), some (.int (nI c9)), x6, x7, x8]) (st' := [.int (nI c9), .int _]) dL_acts_156 rfl ?_
      refine w_iconst (K := K_L_acts) (v := 2) dL_acts_158 rfl ?_
      refine w_icmple (K := K_L_acts) (t := 166) dL_acts_159 (by decide) (fun c159 => ?_) (fun c159 => ?_)
      · refine w_iconst (K := K_L_acts) (v := 0) dL_acts_166 rfl ?_
        refine w_icmpne (K := K_L_acts) (t := 174) dL_acts_167 (by decide) (fun c167 => ?_) (fun c167 => ?_)
        · exact absurd (by rw [z_dn_stl, z_dn_prk (z_isk hb (show a9 < 61 by omega) (fun _ => by omega)).1]; rfl) c167
        · refine w_iconst (K := K_L_acts) (v := 1) dL_acts_170 rfl ?_
          refine w_goto (K := K_L_acts) (t := 175) dL_acts_171 (by decide) ?_
          refine w_ireturn (K := K_L_acts) dL_acts_175 ?_
          exact ⟨rfl, kk _ _ _ _ (h1.to (by omega) (by omega) (by omega))⟩
      · exact absurd c135 c159
  · refine w_iconst (K := K_L_acts) (v := 1) dL_acts_138 rfl ?_
    refine w_goto (K := K_L_acts) (t := 143) dL_acts_139 (by decide) ?_
    refine t_callS (K := K_L_acts) (As := [.ref ax, .int (nI b9), .int (nI a9), .int 1]) (rest := []) dL_acts_143 rfl rM_L_key (by decide) rfl rfl (by decide) (Nat.le_of_ble_eq_true rfl) (g_key (by omega) he h (z_isk hb (show a9 < 61 by omega) (fun _ => by omega)).1 (Or.inr rfl) (fun p1 c1 h1 => ?_))
    show s_w _ _ _ 146 _ _ _ _
    refine w_iflt (K := K_L_acts) (t := 174) dL_acts_146 (by decide) (fun c146 => ?_) (fun c146 => ?_)
    · exact absurd c146 z_i01
    · refine w_op (K := K_L_acts) (pc' := 150) (ll' := [some (.ref ax), some (.ref (e_xb + 0)), some (.int (nI k9)), some (.int (nI a9)), some (.int (nI b9)), some (.int (nI c9)), x6, x7, x8]) (st' := [.ref ax]) dL_acts_149 rfl ?_
      refine w_op (K := K_L_acts) (pc' := 152) (ll' := [some (.ref ax), some (.ref (e_xb + 0)), some (.int (nI k9)), some (.int (nI a9)), some (.int (nI b9)), some (.int (nI c9)), x6, x7, x8]) (st' := [.int (nI b9), .ref ax]) dL_acts_150 rfl ?_
      refine w_op (K := K_L_acts) (pc' := 153) (ll' := [some (.ref ax), some (.ref (e_xb + 0)), some (.int (nI k9)), some (.int (nI a9)), some (.int (nI b9)), some (.int (nI c9)), x6, x7, x8]) (st' := [.int (nI a9), .int (nI b9), .ref ax]) dL_acts_152 rfl ?_
      refine t_callS (K := K_L_acts) (As := [.ref ax, .int (nI b9), .int (nI a9)]) (rest := []) dL_acts_153 rfl rM_L_isDown (by decide) rfl rfl (by decide) (Nat.le_of_ble_eq_true rfl) (q_isDown_ h1 (z_isk hb (show a9 < 61 by omega) (fun _ => by omega)).1 ?_)
      show s_w _ _ _ 156 _ _ _ _
      refine w_op (K := K_L_acts) (pc' := 158) (ll' := [some (.ref ax), some (.ref (e_xb + 0)), some (.int (nI k9)), some (.int (nI a9)), some (.int (nI b9)), some (.int (nI c9)), x6, x7, x8]) (st' := [.int (nI c9), .int _]) dL_acts_156 rfl ?_
      refine w_iconst (K := K_L_acts) (v := 2) dL_acts_158 rfl ?_
      refine w_icmple (K := K_L_acts) (t := 166) dL_acts_159 (by decide) (fun c159 => ?_) (fun c159 => ?_)
      · exact absurd c159 c135
      · refine w_iconst (K := K_L_acts) (v := 1) dL_acts_162 rfl ?_
        refine w_goto (K := K_L_acts) (t := 167) dL_acts_163 (by decide) ?_
        refine w_icmpne (K := K_L_acts) (t := 174) dL_acts_167 (by decide) (fun c167 => ?_) (fun c167 => ?_)
        · exact absurd (by rw [z_dn_stl, z_dn_prk (z_isk hb (show a9 < 61 by omega) (fun _ => by omega)).1]; rfl) c167
        · refine w_iconst (K := K_L_acts) (v := 1) dL_acts_170 rfl ?_
          refine w_goto (K := K_L_acts) (t := 175) dL_acts_171 (by decide) ?_
          refine w_ireturn (K := K_L_acts) dL_acts_175 ?_
          exact ⟨rfl, kk _ _ _ _ (h1.to (by omega) (by omega) (by omega))⟩

set_option maxRecDepth 100000 in
set_option maxHeartbeats 400000 in
theorem ac_176 {X : e_XT} {d T e ax k9 a9 b9 c9 : Nat} {p : e_Sp} {I : e_I} {J : e_Jt} {c : Nat × Nat} {w : e_Rw1} {Q : e_Rt → e_SS → Prop} {x6 x7 x8 : Option Value} (hT : T + 7 ≤ 500) (he : e ≤ 390) (h : z_O T e ax (p, I, J, c, w)) (ha : a9 < 30) (hb : b9 < 3) (hc : c9 < 9) (hX : v_X X) (kk : ∀ p' c' A JA, z_O (T + 6) 0 ax (p', A, JA, c', w) → Q (.inl (some (.int 1))) (p', A, JA, c', w)) : s_w X (d + 13) K_L_acts 176 [some (.ref ax), some (.ref (e_xb + 0)), some (.int (nI k9)), some (.int (nI a9)), some (.int (nI b9)), some (.int (nI c9)), x6, x7, x8] [] (p, I, J, c, w) (fun r S' => e_rcr (some FieldType.boolean) r = true ∧ Q r S') := by
  obtain ⟨np, I', J', hQ⟩ := h.q
  refine w_op (K := K_L_acts) (pc' := 177) (ll' := [some (.ref ax), some (.ref (e_xb + 0)), some (.int (nI k9)), some (.int (nI a9)), some (.int (nI b9)), some (.int (nI c9)), x6, x7, x8]) (st' := [.ref ax]) dL_acts_176 rfl ?_
  refine w_op (K := K_L_acts) (pc' := 179) (ll' := [some (.ref ax), some (.ref (e_xb + 0)), some (.int (nI k9)), some (.int (nI a9)), some (.int (nI b9)), some (.int (nI c9)), x6, x7, x8]) (st' := [.int (nI c9), .ref ax]) dL_acts_177 rfl ?_
  refine w_op (K := K_L_acts) (pc' := 180) (ll' := [some (.ref ax), some (.ref (e_xb + 0)), some (.int (nI k9)), some (.int (nI a9)), some (.int (nI b9)), some (.int (nI c9)), x6, x7, x8]) (st' := [.int (nI a9), .int (nI c9), .ref ax]) dL_acts_179 rfl ?_
  refine w_bipush (K := K_L_acts) (v := 9) dL_acts_180 rfl ?_
  refine w_icmple (K := K_L_acts) (t := 189) dL_acts_182 (by decide) (fun c182 => ?_) (fun c182 => ?_)
  · refine w_iconst (K := K_L_acts) (v := 0) dL_acts_189 rfl ?_
    refine t_callS (K := K_L_acts) (As := [.ref ax, .int (nI c9), .int 0]) (rest := []) dL_acts_190 rfl rM_L_draw (by decide) rfl rfl (by decide) (Nat.le_of_ble_eq_true rfl) (g_draw (by omega) he h hc (Or.inl rfl) (fun p1 c1 h1 => ?_))
    show s_w _ _ _ 193 _ _ _ _
    refine w_iflt (K := K_L_acts) (t := 220) dL_acts_193 (by decide) (fun c193 => ?_) (fun c193 => ?_)
    · exact absurd c193 z_i01
    · refine w_op (K := K_L_acts) (pc' := 197) (ll' := [some (.ref ax), some (.ref (e_xb + 0)), some (.int (nI k9)), some (.int (nI a9)), some (.int (nI b9)), some (.int (nI c9)), x6, x7, x8]) (st' := [.ref ax]) dL_acts_196 rfl ?_
      refine w_op (K := K_L_acts) (pc' := 199) (ll' := [some (.ref ax), some (.ref (e_xb + 0)), some (.int (nI k9)), some (.int (nI a9)), some (.int (nI b9)), some (.int (nI c9)), x6, x7, x8]) (st' := [.int (nI c9), .ref ax]) dL_acts_197 rfl ?_
      refine t_callS (K := K_L_acts) (As := [.ref ax, .int (nI c9)]) (rest := []) dL_acts_199 rfl rM_L_isDrawn (by decide) rfl rfl (by decide) (Nat.le_of_ble_eq_true rfl) (q_isDrawn_ h1 hc (fun j _ => h1.bo rfl j) ?_)
      show s_w _ _ _ 202 _ _ _ _
      refine w_op (K := K_L_acts) (pc' := 203) (ll' := [some (.ref ax), some (.ref (e_xb + 0)), some (.int (nI k9)), some (.int (nI a9)), some (.int (nI b9)), some (.int (nI c9)), x6, x7, x8]) (st' := [.int (nI a9), .int _]) dL_acts_202 rfl ?_
      refine w_bipush (K := K_L_acts) (v := 9) dL_acts_203 rfl ?_
      refine w_icmple (K := K_L_acts) (t := 212) dL_acts_205 (by decide) (fun c205 => ?_) (fun c205 => ?_)
      · refine w_iconst (K := K_L_acts) (v := 0) dL_acts_212 rfl ?_
        refine w_icmpne (K := K_L_acts) (t := 220) dL_acts_213 (by decide) (fun c213 => ?_) (fun c213 => ?_)
        · exact absurd (by rw [z_stlF (by decide), s_up_s]; rfl) c213
        · refine w_iconst (K := K_L_acts) (v := 1) dL_acts_216 rfl ?_
          refine w_goto (K := K_L_acts) (t := 221) dL_acts_217 (by decide) ?_
          refine w_ireturn (K := K_L_acts) dL_acts_221 ?_
          exact ⟨rfl, kk _ _ _ _ (h1.to (by omega) (by omega) (by omega))⟩
      · exact absurd c182 c205
  · refine w_iconst (K := K_L_acts) (v := 1) dL_acts_185 rfl ?_
    refine w_goto (K := K_L_acts) (t := 190) dL_acts_186 (by decide) ?_
    refine t_callS (K := K_L_acts) (As := [.ref ax, .int (nI c9), .int 1]) (rest := []) dL_acts_190 rfl rM_L_draw (by decide) rfl rfl (by decide) (Nat.le_of_ble_eq_true rfl) (g_draw (by omega) he h hc (Or.inr rfl) (fun p1 c1 h1 => ?_))
    show s_w _ _ _ 193 _ _ _ _
    refine w_iflt (K := K_L_acts) (t := 220) dL_acts_193 (by decide) (fun c193 => ?_) (fun c193 => ?_)
    · exact absurd c193 z_i01
    · refine w_op (K := K_L_acts) (pc' := 197) (ll' := [some (.ref ax), some (.ref (e_xb + 0)), some (.int (nI k9)), some (.int (nI a9)), some (.int (nI b9)), some (.int (nI c9)), x6, x7, x8]) (st' := [.ref ax]) dL_acts_196 rfl ?_
      refine w_op (K := K_L_acts) (pc' := 199) (ll' := [some (.ref ax), some (.ref (e_xb + 0)), some (.int (nI k9)), some (.int (nI a9)), some (.int (nI b9)), some (.int (nI c9)), x6, x7, x8]) (st' := [.int (nI c9), .ref ax]) dL_acts_197 rfl ?_
      refine t_callS (K := K_L_acts) (As := [.ref ax, .int (nI c9)]) (rest := []) dL_acts_199 rfl rM_L_isDrawn (by decide) rfl rfl (by decide) (Nat.le_of_ble_eq_true rfl) (q_isDrawn_ h1 hc (fun j _ => h1.bo rfl j) ?_)
      show s_w _ _ _ 202 _ _ _ _
      refine w_op (K := K_L_acts) (pc' := 203) (ll' := [some (.ref ax), some (.ref (e_xb + 0)), some (.int (nI k9)), some (.int (nI a9)), some (.int (nI b9)), some (.int (nI c9)), x6, x7, x8]) (st' := [.int (nI a9), .int _]) dL_acts_202 rfl ?_
      refine w_bipush (K := K_L_acts) (v := 9) dL_acts_203 rfl ?_
      refine w_icmple (K := K_L_acts) (t := 212) dL_acts_205 (by decide) (fun c205 => ?_) (fun c205 => ?_)
      · exact absurd c205 c182
      · refine w_iconst (K := K_L_acts) (v := 1) dL_acts_208 rfl ?_
        refine w_goto (K := K_L_acts) (t := 213) dL_acts_209 (by decide) ?_
        refine w_icmpne (K := K_L_acts) (t := 220) dL_acts_213 (by decide) (fun c213 => ?_) (fun c213 => ?_)
        · exact absurd (by rw [z_stlF (by decide), s_up_s]; rfl) c213
        · refine w_iconst (K := K_L_acts) (v := 1) dL_acts_216 rfl ?_
          refine w_goto (K := K_L_acts) (t := 221) dL_acts_217 (by decide) ?_
          refine w_ireturn (K := K_L_acts) dL_acts_221 ?_
          exact ⟨rfl, kk _ _ _ _ (h1.to (by omega) (by omega) (by omega))⟩

set_option maxRecDepth 100000 in
set_option maxHeartbeats 400000 in
theorem ac_222 {X : e_XT} {d T e ax k9 a9 b9 c9 : Nat} {p : e_Sp} {I : e_I} {J : e_Jt} {c : Nat × Nat} {w : e_Rw1} {Q : e_Rt → e_SS → Prop} {x6 x7 x8 : Option Value} (hT : T + 7 ≤ 500) (he : e ≤ 390) (h : z_O T e ax (p, I, J, c, w)) (ha : a9 < 30) (hb : b9 < 3) (hc : c9 < 9) (hX : v_X X) (kk : ∀ p' c' A JA, z_O (T + 6) 0 ax (p', A, JA, c', w) → Q (.inl (some (.int 1))) (p', A, JA, c', w)) : s_w X (d + 13) K_L_acts 222 [some (.ref ax), some (.ref (e_xb + 0)), some (.int (nI k9)), some (.int (nI a9)), some (.int (nI b9)), some (.int (nI c9)), x6, x7, x8] [] (p, I, J, c, w) (fun r S' => e_rcr (some FieldType.boolean) r = true ∧ Q r S') := by
  obtain ⟨np, I', J', hQ⟩ := h.q
  refine w_op (K := K_L_acts) (pc' := 223) (ll' := [some (.ref ax), some (.ref (e_xb + 0)), some (.int (nI k9)), some (.int (nI a9)), some (.int (nI b9)), some (.int (nI c9)), x6, x7, x8]) (st' := [.ref ax]) dL_acts_222 rfl ?_
  refine w_iconst (K := K_L_acts) (v := (nI 1)) dL_acts_223 rfl ?_
  refine w_op (K := K_L_acts) (pc' := 226) (ll' := [some (.ref ax), some (.ref (e_xb + 0)), some (.int (nI k9)), some (.int (nI a9)), some (.int (nI b9)), some (.int (nI c9)), x6, x7, x8]) (st' := [.int (nI b9), .int (nI 1), .ref ax]) dL_acts_224 rfl ?_
  refine w_op (K := K_L_acts) (pc' := 227) (ll' := [some (.ref ax), some (.ref (e_xb + 0)), some (.int (nI k9)), some (.int (nI a9)), some (.int (nI b9)), some (.int (nI c9)), x6, x7, x8]) (st' := [.int ((nI 1) + (nI b9)), .ref ax]) dL_acts_226 rfl ?_
  rw [nI_add]
  refine t_callS (K := K_L_acts) (As := [.ref ax, .int (nI (1 + b9))]) (rest := []) dL_acts_227 rfl rM_L_pass (by decide) rfl rfl (by decide) (Nat.le_of_ble_eq_true rfl) (g_pass (by omega) he h ⟨by omega, by omega⟩ (fun p1 c1 x1 hx1 h1 => ?_))
  show s_w _ _ _ 230 _ _ _ _
  refine w_ifle (K := K_L_acts) (t := 237) dL_acts_230 (by decide) (fun c230 => ?_) (fun c230 => ?_)
  · exact absurd c230 (Int32.not_le.mpr hx1)
  · refine w_iconst (K := K_L_acts) (v := 1) dL_acts_233 rfl ?_
    refine w_goto (K := K_L_acts) (t := 238) dL_acts_234 (by decide) ?_
    refine w_ireturn (K := K_L_acts) dL_acts_238 ?_
    exact ⟨rfl, kk _ _ _ _ (h1.to (by omega) (by omega) (by omega))⟩

set_option maxRecDepth 100000 in
set_option maxHeartbeats 400000 in
theorem ac_239 {X : e_XT} {d T e ax k9 a9 b9 c9 : Nat} {p : e_Sp} {I : e_I} {J : e_Jt} {c : Nat × Nat} {w : e_Rw1} {Q : e_Rt → e_SS → Prop} {x6 x7 x8 : Option Value} (hT : T + 7 ≤ 500) (he : e ≤ 390) (h : z_O T e ax (p, I, J, c, w)) (ha : a9 < 30) (hb : b9 < 3) (hc : c9 < 9) (hX : v_X X) (kk : ∀ p' c' A JA, z_O (T + 6) 0 ax (p', A, JA, c', w) → Q (.inl (some (.int 1))) (p', A, JA, c', w)) : s_w X (d + 13) K_L_acts 239 [some (.ref ax), some (.ref (e_xb + 0)), some (.int (nI k9)), some (.int (nI a9)), some (.int (nI b9)), some (.int (nI c9)), x6, x7, x8] [] (p, I, J, c, w) (fun r S' => e_rcr (some FieldType.boolean) r = true ∧ Q r S') := by
  obtain ⟨np, I', J', hQ⟩ := h.q
  refine w_op (K := K_L_acts) (pc' := 240) (ll' := [some (.ref ax), some (.ref (e_xb + 0)), some (.int (nI k9)), some (.int (nI a9)), some (.int (nI b9)), some (.int (nI c9)), x6, x7, x8]) (st' := [.ref ax]) dL_acts_239 rfl ?_
  refine l_callH (K := K_L_acts) (As := []) (rest := []) dL_acts_240 rfl rM_X11_lift (by decide) rfl rfl (by decide) rfl (Nat.le_of_ble_eq_true rfl) h.hf (g_lift (by omega) he h (fun p1 c1 h1 => ?_))
  show s_w _ _ _ 243 _ _ _ _
  rw [z_rla.2]
  refine w_op (K := K_L_acts) (pc' := 245) (ll' := [some (.ref ax), some (.ref (e_xb + 0)), some (.int (nI k9)), some (.int (nI a9)), some (.int (nI b9)), some (.int (nI c9)), some (.int (nI (z_all I))), x7, x8]) (st' := []) dL_acts_243 rfl ?_
  refine w_op (K := K_L_acts) (pc' := 247) (ll' := [some (.ref ax), some (.ref (e_xb + 0)), some (.int (nI k9)), some (.int (nI a9)), some (.int (nI b9)), some (.int (nI c9)), some (.int (nI (z_all I))), x7, x8]) (st' := [.int (nI (z_all I))]) dL_acts_245 rfl ?_
  refine w_iflt (K := K_L_acts) (t := 271) dL_acts_247 (by decide) (fun c247 => ?_) (fun c247 => ?_)
  · exact absurd c247 (nI_pos (by have := z_all_le (I := I); omega))
  · refine w_op (K := K_L_acts) (pc' := 251) (ll' := [some (.ref ax), some (.ref (e_xb + 0)), some (.int (nI k9)), some (.int (nI a9)), some (.int (nI b9)), some (.int (nI c9)), some (.int (nI (z_all I))), x7, x8]) (st' := [.ref ax]) dL_acts_250 rfl ?_
    refine l_callH (K := K_L_acts) (As := []) (rest := []) dL_acts_251 rfl rM_X11_lift (by decide) rfl rfl (by decide) rfl (Nat.le_of_ble_eq_true rfl) h1.hf (g_lift (by omega) (by omega) h1 (fun p2 c2 h2 => ?_))
    show s_w _ _ _ 254 _ _ _ _
    refine w_ifne (K := K_L_acts) (t := 271) dL_acts_254 (by decide) (fun c254 => ?_) (fun c254 => ?_)
    · exfalso; exact c254 (by rw [z_rla.2, z_all0 z_lfd]; rfl)
    · refine w_op (K := K_L_acts) (pc' := 258) (ll' := [some (.ref ax), some (.ref (e_xb + 0)), some (.int (nI k9)), some (.int (nI a9)), some (.int (nI b9)), some (.int (nI c9)), some (.int (nI (z_all I))), x7, x8]) (st' := [.ref ax]) dL_acts_257 rfl ?_
      refine w_op (K := K_L_acts) (pc' := 260) (ll' := [some (.ref ax), some (.ref (e_xb + 0)), some (.int (nI k9)), some (.int (nI a9)), some (.int (nI b9)), some (.int (nI c9)), some (.int (nI (z_all I))), x7, x8]) (st' := [.int (nI b9), .ref ax]) dL_acts_258 rfl ?_
      refine w_op (K := K_L_acts) (pc' := 261) (ll' := [some (.ref ax), some (.ref (e_xb + 0)), some (.int (nI k9)), some (.int (nI a9)), some (.int (nI b9)), some (.int (nI c9)), some (.int (nI (z_all I))), x7, x8]) (st' := [.int (nI a9), .int (nI b9), .ref ax]) dL_acts_260 rfl ?_
      refine t_callS (K := K_L_acts) (As := [.ref ax, .int (nI b9), .int (nI a9)]) (rest := []) dL_acts_261 rfl rM_L_isDown (by decide) rfl rfl (by decide) (Nat.le_of_ble_eq_true rfl) (q_isDown_ h2 (z_isk hb (show a9 < 61 by omega) (fun _ => by omega)).1 ?_)
      show s_w _ _ _ 264 _ _ _ _
      refine w_ifne (K := K_L_acts) (t := 271) dL_acts_264 (by decide) (fun c264 => ?_) (fun c264 => ?_)
      · exfalso; exact c264 (by rw [z_dnv hb (by omega) (by omega), z_lfd _ (by omega) (by omega)]; rfl)
      · refine w_iconst (K := K_L_acts) (v := 1) dL_acts_267 rfl ?_
        refine w_goto (K := K_L_acts) (t := 272) dL_acts_268 (by decide) ?_
        refine w_ireturn (K := K_L_acts) dL_acts_272 ?_
        exact ⟨rfl, kk _ _ _ _ (h2.to (by omega) (by omega) (by omega))⟩

set_option maxRecDepth 100000 in
set_option maxHeartbeats 400000 in
theorem ac_273 {X : e_XT} {d T e ax k9 a9 b9 c9 : Nat} {p : e_Sp} {I : e_I} {J : e_Jt} {c : Nat × Nat} {w : e_Rw1} {Q : e_Rt → e_SS → Prop} {x6 x7 x8 : Option Value} (hT : T + 7 ≤ 500) (he : e ≤ 390) (h : z_O T e ax (p, I, J, c, w)) (ha : a9 < 30) (hb : b9 < 3) (hc : c9 < 9) (hX : v_X X) (kk : ∀ p' c' A JA, z_O (T + 6) 0 ax (p', A, JA, c', w) → Q (.inl (some (.int 1))) (p', A, JA, c', w)) : s_w X (d + 13) K_L_acts 273 [some (.ref ax), some (.ref (e_xb + 0)), some (.int (nI k9)), some (.int (nI a9)), some (.int (nI b9)), some (.int (nI c9)), x6, x7, x8] [] (p, I, J, c, w) (fun r S' => e_rcr (some FieldType.boolean) r = true ∧ Q r S') := by
  obtain ⟨np, I', J', hQ⟩ := h.q
  have hbo := hQ.bo (F := f_k_isOut) rfl c9
  refine w_op (K := K_L_acts) (pc' := 274) (ll' := [some (.ref ax), some (.ref (e_xb + 0)), some (.int (nI k9)), some (.int (nI a9)), some (.int (nI b9)), some (.int (nI c9)), x6, x7, x8]) (st' := [.ref ax]) dL_acts_273 rfl ?_
  refine w_op (K := K_L_acts) (pc' := 276) (ll' := [some (.ref ax), some (.ref (e_xb + 0)), some (.int (nI k9)), some (.int (nI a9)), some (.int (nI b9)), some (.int (nI c9)), x6, x7, x8]) (st' := [.int (nI c9), .ref ax]) dL_acts_274 rfl ?_
  refine t_callS (K := K_L_acts) (As := [.ref ax, .int (nI c9)]) (rest := []) dL_acts_276 rfl rM_L_isDrawn (by decide) rfl rfl (by decide) (Nat.le_of_ble_eq_true rfl) (q_isDrawn_ h hc (fun j _ => h.bo rfl j) ?_)
  show s_w _ _ _ 279 _ _ _ _
  rw [z_01 hbo]
  refine w_op (K := K_L_acts) (pc' := 281) (ll' := [some (.ref ax), some (.ref (e_xb + 0)), some (.int (nI k9)), some (.int (nI a9)), some (.int (nI b9)), some (.int (nI c9)), some (.int (I f_k_isOut c9)), x7, x8]) (st' := []) dL_acts_279 rfl ?_
  refine w_op (K := K_L_acts) (pc' := 282) (ll' := [some (.ref ax), some (.ref (e_xb + 0)), some (.int (nI k9)), some (.int (nI a9)), some (.int (nI b9)), some (.int (nI c9)), some (.int (I f_k_isOut c9)), x7, x8]) (st' := [.ref ax]) dL_acts_281 rfl ?_
  refine w_iconst (K := K_L_acts) (v := (-1)) dL_acts_282 rfl ?_
  refine w_op (K := K_L_acts) (pc' := 285) (ll' := [some (.ref ax), some (.ref (e_xb + 0)), some (.int (nI k9)), some (.int (nI a9)), some (.int (nI b9)), some (.int (nI c9)), some (.int (I f_k_isOut c9)), x7, x8]) (st' := [.int (nI b9), .int (-1), .ref ax]) dL_acts_283 rfl ?_
  refine t_callS (K := K_L_acts) (As := [.ref ax, .int (-1), .int (nI b9)]) (rest := []) dL_acts_285 rfl rM_L_set (by decide) rfl rfl (by decide) (Nat.le_of_ble_eq_true rfl) (g_set (by omega) he h (show b9 < 8 by omega) (fun h1 => ?_))
  show s_w _ _ _ 288 _ _ _ _
  refine w_iflt (K := K_L_acts) (t := 295) dL_acts_288 (by decide) (fun c288 => ?_) (fun c288 => ?_)
  · refine w_iconst (K := K_L_acts) (v := 0) dL_acts_295 rfl ?_
    refine w_op (K := K_L_acts) (pc' := 298) (ll' := [some (.ref ax), some (.ref (e_xb + 0)), some (.int (nI k9)), some (.int (nI a9)), some (.int (nI b9)), some (.int (nI c9)), some (.int (I f_k_isOut c9)), some (.int 0), x8]) (st' := []) dL_acts_296 rfl ?_
    refine w_op (K := K_L_acts) (pc' := 300) (ll' := [some (.ref ax), some (.ref (e_xb + 0)), some (.int (nI k9)), some (.int (nI a9)), some (.int (nI b9)), some (.int (nI c9)), some (.int (I f_k_isOut c9)), some (.int 0), x8]) (st' := [.int 0]) dL_acts_298 rfl ?_
    refine w_ifeq (K := K_L_acts) (t := 334) dL_acts_300 (by decide) (fun c300 => ?_) (fun c300 => ?_)
    · refine w_iconst (K := K_L_acts) (v := 1) dL_acts_334 rfl ?_
      refine w_goto (K := K_L_acts) (t := 339) dL_acts_335 (by decide) ?_
      refine w_op (K := K_L_acts) (pc' := 341) (ll' := [some (.ref ax), some (.ref (e_xb + 0)), some (.int (nI k9)), some (.int (nI a9)), some (.int (nI b9)), some (.int (nI c9)), some (.int (I f_k_isOut c9)), some (.int 0), some (.int 1)]) (st' := []) dL_acts_339 rfl ?_
      refine w_op (K := K_L_acts) (pc' := 343) (ll' := [some (.ref ax), some (.ref (e_xb + 0)), some (.int (nI k9)), some (.int (nI a9)), some (.int (nI b9)), some (.int (nI c9)), some (.int (I f_k_isOut c9)), some (.int 0), some (.int 1)]) (st' := [.int 1]) dL_acts_341 rfl ?_
      refine w_ifeq (K := K_L_acts) (t := 387) dL_acts_343 (by decide) (fun c343 => ?_) (fun c343 => ?_)
      · exact absurd c343 (by decide)
      · refine w_op (K := K_L_acts) (pc' := 348) (ll' := [some (.ref ax), some (.ref (e_xb + 0)), some (.int (nI k9)), some (.int (nI a9)), some (.int (nI b9)), some (.int (nI c9)), some (.int (I f_k_isOut c9)), some (.int 0), some (.int 1)]) (st' := [.int 0]) dL_acts_346 rfl ?_
        refine w_ifeq (K := K_L_acts) (t := 383) dL_acts_348 (by decide) (fun c348 => ?_) (fun c348 => ?_)
        · refine w_iconst (K := K_L_acts) (v := 1) dL_acts_383 rfl ?_
          refine w_goto (K := K_L_acts) (t := 388) dL_acts_384 (by decide) ?_
          refine w_ireturn (K := K_L_acts) dL_acts_388 ?_
          exact ⟨rfl, kk _ _ _ _ (h1.to (by omega) (by omega) (by omega))⟩
        · exact absurd rfl c348
    · exact absurd rfl c300
  · refine w_iconst (K := K_L_acts) (v := 1) dL_acts_291 rfl ?_
    refine w_goto (K := K_L_acts) (t := 296) dL_acts_292 (by decide) ?_
    refine w_op (K := K_L_acts) (pc' := 298) (ll' := [some (.ref ax), some (.ref (e_xb + 0)), some (.int (nI k9)), some (.int (nI a9)), some (.int (nI b9)), some (.int (nI c9)), some (.int (I f_k_isOut c9)), some (.int 1), x8]) (st' := []) dL_acts_296 rfl ?_
    refine w_op (K := K_L_acts) (pc' := 300) (ll' := [some (.ref ax), some (.ref (e_xb + 0)), some (.int (nI k9)), some (.int (nI a9)), some (.int (nI b9)), some (.int (nI c9)), some (.int (I f_k_isOut c9)), some (.int 1), x8]) (st' := [.int 1]) dL_acts_298 rfl ?_
    refine w_ifeq (K := K_L_acts) (t := 334) dL_acts_300 (by decide) (fun c300 => ?_) (fun c300 => ?_)
    · exact absurd c300 (by decide)
    · refine w_op (K := K_L_acts) (pc' := 304) (ll' := [some (.ref ax), some (.ref (e_xb + 0)), some (.int (nI k9)), some (.int (nI a9)), some (.int (nI b9)), some (.int (nI c9)), some (.int (I f_k_isOut c9)), some (.int 1), x8]) (st' := [.ref ax]) dL_acts_303 rfl ?_
      refine w_op (K := K_L_acts) (pc' := 306) (ll' := [some (.ref ax), some (.ref (e_xb + 0)), some (.int (nI k9)), some (.int (nI a9)), some (.int (nI b9)), some (.int (nI c9)), some (.int (I f_k_isOut c9)), some (.int 1), x8]) (st' := [.int (nI c9), .ref ax]) dL_acts_304 rfl ?_
      refine w_op (K := K_L_acts) (pc' := 308) (ll' := [some (.ref ax), some (.ref (e_xb + 0)), some (.int (nI k9)), some (.int (nI a9)), some (.int (nI b9)), some (.int (nI c9)), some (.int (I f_k_isOut c9)), some (.int 1), x8]) (st' := [.int (I f_k_isOut c9), .int (nI c9), .ref ax]) dL_acts_306 rfl ?_
      refine w_ifne (K := K_L_acts) (t := 315) dL_acts_308 (by decide) (fun c308 => ?_) (fun c308 => ?_)
      · refine w_iconst (K := K_L_acts) (v := 0) dL_acts_315 rfl ?_
        refine t_callS (K := K_L_acts) (As := [.ref ax, .int (nI c9), .int 0]) (rest := []) dL_acts_316 rfl rM_L_draw (by decide) rfl rfl (by decide) (Nat.le_of_ble_eq_true rfl) (g_draw (by omega) (by omega) h1 hc (Or.inl rfl) (fun p2 c2 h2 => ?_))
        show s_w _ _ _ 319 _ _ _ _
        rw [z_kpI f_k_isOut (by decide), z_01 hbo]
        refine w_op (K := K_L_acts) (pc' := 321) (ll' := [some (.ref ax), some (.ref (e_xb + 0)), some (.int (nI k9)), some (.int (nI a9)), some (.int (nI b9)), some (.int (nI c9)), some (.int (I f_k_isOut c9)), some (.int 1), x8]) (st' := [.int (I f_k_isOut c9), .int (I f_k_isOut c9)]) dL_acts_319 rfl ?_
        refine w_icmpne (K := K_L_acts) (t := 338) dL_acts_321 (by decide) (fun c321 => ?_) (fun c321 => ?_)
        · exact absurd rfl c321
        · have hB := z_back (p := p) (I0 := I) (J0 := J) (c := c9) (y := b9) (x := 0) (w := w) hc (by omega) hbo (A2 := (s_stl p 9 3 (s_up (s_kpI I (nI b9)) f_k_isOut c9 0, s_kpJ I J (nI b9) (s_kset I 9 (-1)) (s_da I 9 (s_kset I 9 (-1))))).1) (J2 := (s_stl p 9 3 (s_up (s_kpI I (nI b9)) f_k_isOut c9 0, s_kpJ I J (nI b9) (s_kset I 9 (-1)) (s_da I 9 (s_kset I 9 (-1))))).2) rfl hQ.lvl
          refine w_op (K := K_L_acts) (pc' := 325) (ll' := [some (.ref ax), some (.ref (e_xb + 0)), some (.int (nI k9)), some (.int (nI a9)), some (.int (nI b9)), some (.int (nI c9)), some (.int (I f_k_isOut c9)), some (.int 1), x8]) (st' := [.ref ax]) dL_acts_324 rfl ?_
          refine w_iconst (K := K_L_acts) (v := (-1)) dL_acts_325 rfl ?_
          refine w_op (K := K_L_acts) (pc' := 328) (ll' := [some (.ref ax), some (.ref (e_xb + 0)), some (.int (nI k9)), some (.int (nI a9)), some (.int (nI b9)), some (.int (nI c9)), some (.int (I f_k_isOut c9)), some (.int 1), x8]) (st' := [.int (nI b9), .int (-1), .ref ax]) dL_acts_326 rfl ?_
          refine t_callS (K := K_L_acts) (As := [.ref ax, .int (-1), .int (nI b9)]) (rest := []) dL_acts_328 rfl rM_L_push (by decide) rfl rfl (by decide) (Nat.le_of_ble_eq_true rfl) (g_push (by omega) (by omega) h2 (show b9 < 8 by omega) hB.1 (fun p3 c3 h3 => ?_))
          show s_w _ _ _ 331 _ _ _ _
          refine w_iflt (K := K_L_acts) (t := 338) dL_acts_331 (by decide) (fun c331 => ?_) (fun c331 => ?_)
          · exact absurd c331 (by obtain ⟨q9, hq9, eq9⟩ := z_mtc (y := s_kby j_a_kept (s_stl p 9 3 (s_up (s_kpI I (nI b9)) f_k_isOut c9 _, _)).1 _ (nI b9)) (z := _) (I := _); rw [eq9]; exact nI_pos (by omega))
          · refine w_iconst (K := K_L_acts) (v := 1) dL_acts_334 rfl ?_
            refine w_goto (K := K_L_acts) (t := 339) dL_acts_335 (by decide) ?_
            refine w_op (K := K_L_acts) (pc' := 341) (ll' := [some (.ref ax), some (.ref (e_xb + 0)), some (.int (nI k9)), some (.int (nI a9)), some (.int (nI b9)), some (.int (nI c9)), some (.int (I f_k_isOut c9)), some (.int 1), some (.int 1)]) (st' := []) dL_acts_339 rfl ?_
            refine w_op (K := K_L_acts) (pc' := 343) (ll' := [some (.ref ax), some (.ref (e_xb + 0)), some (.int (nI k9)), some (.int (nI a9)), some (.int (nI b9)), some (.int (nI c9)), some (.int (I f_k_isOut c9)), some (.int 1), some (.int 1)]) (st' := [.int 1]) dL_acts_341 rfl ?_
            refine w_ifeq (K := K_L_acts) (t := 387) dL_acts_343 (by decide) (fun c343 => ?_) (fun c343 => ?_)
            · exact absurd c343 (by decide)
            · refine w_op (K := K_L_acts) (pc' := 348) (ll' := [some (.ref ax), some (.ref (e_xb + 0)), some (.int (nI k9)), some (.int (nI a9)), some (.int (nI b9)), some (.int (nI c9)), some (.int (I f_k_isOut c9)), some (.int 1), some (.int 1)]) (st' := [.int 1]) dL_acts_346 rfl ?_
              refine w_ifeq (K := K_L_acts) (t := 383) dL_acts_348 (by decide) (fun c348 => ?_) (fun c348 => ?_)
              · exact absurd c348 (by decide)
              · refine w_op (K := K_L_acts) (pc' := 352) (ll' := [some (.ref ax), some (.ref (e_xb + 0)), some (.int (nI k9)), some (.int (nI a9)), some (.int (nI b9)), some (.int (nI c9)), some (.int (I f_k_isOut c9)), some (.int 1), some (.int 1)]) (st' := [.ref ax]) dL_acts_351 rfl ?_
                refine w_op (K := K_L_acts) (pc' := 354) (ll' := [some (.ref ax), some (.ref (e_xb + 0)), some (.int (nI k9)), some (.int (nI a9)), some (.int (nI b9)), some (.int (nI c9)), some (.int (I f_k_isOut c9)), some (.int 1), some (.int 1)]) (st' := [.int (nI c9), .ref ax]) dL_acts_352 rfl ?_
                refine t_callS (K := K_L_acts) (As := [.ref ax, .int (nI c9)]) (rest := []) dL_acts_354 rfl rM_L_isDrawn (by decide) rfl rfl (by decide) (Nat.le_of_ble_eq_true rfl) (q_isDrawn_ h3 hc (fun j _ => h3.bo rfl j) ?_)
                show s_w _ _ _ 357 _ _ _ _
                refine w_op (K := K_L_acts) (pc' := 359) (ll' := [some (.ref ax), some (.ref (e_xb + 0)), some (.int (nI k9)), some (.int (nI a9)), some (.int (nI b9)), some (.int (nI c9)), some (.int (I f_k_isOut c9)), some (.int 1), some (.int 1)]) (st' := [.int (I f_k_isOut c9), .int _]) dL_acts_357 rfl ?_
                refine w_icmpeq (K := K_L_acts) (t := 383) dL_acts_359 (by decide) (fun c359 => ?_) (fun c359 => ?_)
                · refine w_iconst (K := K_L_acts) (v := 1) dL_acts_383 rfl ?_
                  refine w_goto (K := K_L_acts) (t := 388) dL_acts_384 (by decide) ?_
                  refine w_ireturn (K := K_L_acts) dL_acts_388 ?_
                  exact ⟨rfl, kk _ _ _ _ (h3.to (by omega) (by omega) (by omega))⟩
                · refine w_op (K := K_L_acts) (pc' := 363) (ll' := [some (.ref ax), some (.ref (e_xb + 0)), some (.int (nI k9)), some (.int (nI a9)), some (.int (nI b9)), some (.int (nI c9)), some (.int (I f_k_isOut c9)), some (.int 1), some (.int 1)]) (st' := [.ref ax]) dL_acts_362 rfl ?_
                  refine w_op (K := K_L_acts) (pc' := 365) (ll' := [some (.ref ax), some (.ref (e_xb + 0)), some (.int (nI k9)), some (.int (nI a9)), some (.int (nI b9)), some (.int (nI c9)), some (.int (I f_k_isOut c9)), some (.int 1), some (.int 1)]) (st' := [.int (nI c9), .ref ax]) dL_acts_363 rfl ?_
                  refine w_iconst (K := K_L_acts) (v := 0) dL_acts_365 rfl ?_
                  refine t_callS (K := K_L_acts) (As := [.ref ax, .int (nI c9), .int 0]) (rest := []) dL_acts_366 rfl rM_L_lock (by decide) rfl rfl (by decide) (Nat.le_of_ble_eq_true rfl) (g_lock (by omega) (by omega) h3 hc (Or.inl rfl) (fun h4 => ?_))
                  show s_w _ _ _ 369 _ _ _ _
                  refine w_iconst (K := K_L_acts) (v := 1) dL_acts_369 rfl ?_
                  refine w_icmpeq (K := K_L_acts) (t := 383) dL_acts_370 (by decide) (fun c370 => ?_) (fun c370 => ?_)
                  · refine w_iconst (K := K_L_acts) (v := 1) dL_acts_383 rfl ?_
                    refine w_goto (K := K_L_acts) (t := 388) dL_acts_384 (by decide) ?_
                    refine w_ireturn (K := K_L_acts) dL_acts_388 ?_
                    exact ⟨rfl, kk _ _ _ _ (h4.to (by omega) (by omega) (by omega))⟩
                  · refine w_op (K := K_L_acts) (pc' := 374) (ll' := [some (.ref ax), some (.ref (e_xb + 0)), some (.int (nI k9)), some (.int (nI a9)), some (.int (nI b9)), some (.int (nI c9)), some (.int (I f_k_isOut c9)), some (.int 1), some (.int 1)]) (st' := [.ref ax]) dL_acts_373 rfl ?_
                    refine w_op (K := K_L_acts) (pc' := 376) (ll' := [some (.ref ax), some (.ref (e_xb + 0)), some (.int (nI k9)), some (.int (nI a9)), some (.int (nI b9)), some (.int (nI c9)), some (.int (I f_k_isOut c9)), some (.int 1), some (.int 1)]) (st' := [.int (nI c9), .ref ax]) dL_acts_374 rfl ?_
                    refine w_iconst (K := K_L_acts) (v := 1) dL_acts_376 rfl ?_
                    refine t_callS (K := K_L_acts) (As := [.ref ax, .int (nI c9), .int 1]) (rest := []) dL_acts_377 rfl rM_L_scope (by decide) rfl rfl (by decide) (Nat.le_of_ble_eq_true rfl) (g_scope (by omega) (by omega) h4 hc (Or.inr rfl) (fun h5 => ?_))
                    show s_w _ _ _ 380 _ _ _ _
                    refine w_ifne (K := K_L_acts) (t := 387) dL_acts_380 (by decide) (fun c380 => ?_) (fun c380 => ?_)
                    · refine False.elim (hB.2.elim (fun z => c359 ?_) (fun z => z.elim (fun z => c370 ?_) (fun z => c380 ?_)))
                      · rw [z_stlF (by decide), z]; exact z_01 hbo
                      · rw [if_neg]; rw [z_stlF (by decide)]; exact z
                      · rw [s_up_F (by decide), z_stlF (by decide), z]; rfl
                    · refine w_iconst (K := K_L_acts) (v := 1) dL_acts_383 rfl ?_
                      refine w_goto (K := K_L_acts) (t := 388) dL_acts_384 (by decide) ?_
                      refine w_ireturn (K := K_L_acts) dL_acts_388 ?_
                      exact ⟨rfl, kk _ _ _ _ (h5.to (by omega) (by omega) (by omega))⟩
      · refine w_iconst (K := K_L_acts) (v := 1) dL_acts_311 rfl ?_
        refine w_goto (K := K_L_acts) (t := 316) dL_acts_312 (by decide) ?_
        refine t_callS (K := K_L_acts) (As := [.ref ax, .int (nI c9), .int 1]) (rest := []) dL_acts_316 rfl rM_L_draw (by decide) rfl rfl (by decide) (Nat.le_of_ble_eq_true rfl) (g_draw (by omega) (by omega) h1 hc (Or.inr rfl) (fun p2 c2 h2 => ?_))
        show s_w _ _ _ 319 _ _ _ _
        rw [z_kpI f_k_isOut (by decide), z_01 hbo]
        refine w_op (K := K_L_acts) (pc' := 321) (ll' := [some (.ref ax), some (.ref (e_xb + 0)), some (.int (nI k9)), some (.int (nI a9)), some (.int (nI b9)), some (.int (nI c9)), some (.int (I f_k_isOut c9)), some (.int 1), x8]) (st' := [.int (I f_k_isOut c9), .int (I f_k_isOut c9)]) dL_acts_319 rfl ?_
        refine w_icmpne (K := K_L_acts) (t := 338) dL_acts_321 (by decide) (fun c321 => ?_) (fun c321 => ?_)
        · exact absurd rfl c321
        · have hB := z_back (p := p) (I0 := I) (J0 := J) (c := c9) (y := b9) (x := 1) (w := w) hc (by omega) hbo (A2 := (s_stl p 9 3 (s_up (s_kpI I (nI b9)) f_k_isOut c9 1, s_kpJ I J (nI b9) (s_kset I 9 (-1)) (s_da I 9 (s_kset I 9 (-1))))).1) (J2 := (s_stl p 9 3 (s_up (s_kpI I (nI b9)) f_k_isOut c9 1, s_kpJ I J (nI b9) (s_kset I 9 (-1)) (s_da I 9 (s_kset I 9 (-1))))).2) rfl hQ.lvl
          refine w_op (K := K_L_acts) (pc' := 325) (ll' := [some (.ref ax), some (.ref (e_xb + 0)), some (.int (nI k9)), some (.int (nI a9)), some (.int (nI b9)), some (.int (nI c9)), some (.int (I f_k_isOut c9)), some (.int 1), x8]) (st' := [.ref ax]) dL_acts_324 rfl ?_
          refine w_iconst (K := K_L_acts) (v := (-1)) dL_acts_325 rfl ?_
          refine w_op (K := K_L_acts) (pc' := 328) (ll' := [some (.ref ax), some (.ref (e_xb + 0)), some (.int (nI k9)), some (.int (nI a9)), some (.int (nI b9)), some (.int (nI c9)), some (.int (I f_k_isOut c9)), some (.int 1), x8]) (st' := [.int (nI b9), .int (-1), .ref ax]) dL_acts_326 rfl ?_
          refine t_callS (K := K_L_acts) (As := [.ref ax, .int (-1), .int (nI b9)]) (rest := []) dL_acts_328 rfl rM_L_push (by decide) rfl rfl (by decide) (Nat.le_of_ble_eq_true rfl) (g_push (by omega) (by omega) h2 (show b9 < 8 by omega) hB.1 (fun p3 c3 h3 => ?_))
          show s_w _ _ _ 331 _ _ _ _
          refine w_iflt (K := K_L_acts) (t := 338) dL_acts_331 (by decide) (fun c331 => ?_) (fun c331 => ?_)
          · exact absurd c331 (by obtain ⟨q9, hq9, eq9⟩ := z_mtc (y := s_kby j_a_kept (s_stl p 9 3 (s_up (s_kpI I (nI b9)) f_k_isOut c9 _, _)).1 _ (nI b9)) (z := _) (I := _); rw [eq9]; exact nI_pos (by omega))
          · refine w_iconst (K := K_L_acts) (v := 1) dL_acts_334 rfl ?_
            refine w_goto (K := K_L_acts) (t := 339) dL_acts_335 (by decide) ?_
            refine w_op (K := K_L_acts) (pc' := 341) (ll' := [some (.ref ax), some (.ref (e_xb + 0)), some (.int (nI k9)), some (.int (nI a9)), some (.int (nI b9)), some (.int (nI c9)), some (.int (I f_k_isOut c9)), some (.int 1), some (.int 1)]) (st' := []) dL_acts_339 rfl ?_
            refine w_op (K := K_L_acts) (pc' := 343) (ll' := [some (.ref ax), some (.ref (e_xb + 0)), some (.int (nI k9)), some (.int (nI a9)), some (.int (nI b9)), some (.int (nI c9)), some (.int (I f_k_isOut c9)), some (.int 1), some (.int 1)]) (st' := [.int 1]) dL_acts_341 rfl ?_
            refine w_ifeq (K := K_L_acts) (t := 387) dL_acts_343 (by decide) (fun c343 => ?_) (fun c343 => ?_)
            · exact absurd c343 (by decide)
            · refine w_op (K := K_L_acts) (pc' := 348) (ll' := [some (.ref ax), some (.ref (e_xb + 0)), some (.int (nI k9)), some (.int (nI a9)), some (.int (nI b9)), some (.int (nI c9)), some (.int (I f_k_isOut c9)), some (.int 1), some (.int 1)]) (st' := [.int 1]) dL_acts_346 rfl ?_
              refine w_ifeq (K := K_L_acts) (t := 383) dL_acts_348 (by decide) (fun c348 => ?_) (fun c348 => ?_)
              · exact absurd c348 (by decide)
              · refine w_op (K := K_L_acts) (pc' := 352) (ll' := [some (.ref ax), some (.ref (e_xb + 0)), some (.int (nI k9)), some (.int (nI a9)), some (.int (nI b9)), some (.int (nI c9)), some (.int (I f_k_isOut c9)), some (.int 1), some (.int 1)]) (st' := [.ref ax]) dL_acts_351 rfl ?_
                refine w_op (K := K_L_acts) (pc' := 354) (ll' := [some (.ref ax), some (.ref (e_xb + 0)), some (.int (nI k9)), some (.int (nI a9)), some (.int (nI b9)), some (.int (nI c9)), some (.int (I f_k_isOut c9)), some (.int 1), some (.int 1)]) (st' := [.int (nI c9), .ref ax]) dL_acts_352 rfl ?_
                refine t_callS (K := K_L_acts) (As := [.ref ax, .int (nI c9)]) (rest := []) dL_acts_354 rfl rM_L_isDrawn (by decide) rfl rfl (by decide) (Nat.le_of_ble_eq_true rfl) (q_isDrawn_ h3 hc (fun j _ => h3.bo rfl j) ?_)
                show s_w _ _ _ 357 _ _ _ _
                refine w_op (K := K_L_acts) (pc' := 359) (ll' := [some (.ref ax), some (.ref (e_xb + 0)), some (.int (nI k9)), some (.int (nI a9)), some (.int (nI b9)), some (.int (nI c9)), some (.int (I f_k_isOut c9)), some (.int 1), some (.int 1)]) (st' := [.int (I f_k_isOut c9), .int _]) dL_acts_357 rfl ?_
                refine w_icmpeq (K := K_L_acts) (t := 383) dL_acts_359 (by decide) (fun c359 => ?_) (fun c359 => ?_)
                · refine w_iconst (K := K_L_acts) (v := 1) dL_acts_383 rfl ?_
                  refine w_goto (K := K_L_acts) (t := 388) dL_acts_384 (by decide) ?_
                  refine w_ireturn (K := K_L_acts) dL_acts_388 ?_
                  exact ⟨rfl, kk _ _ _ _ (h3.to (by omega) (by omega) (by omega))⟩
                · refine w_op (K := K_L_acts) (pc' := 363) (ll' := [some (.ref ax), some (.ref (e_xb + 0)), some (.int (nI k9)), some (.int (nI a9)), some (.int (nI b9)), some (.int (nI c9)), some (.int (I f_k_isOut c9)), some (.int 1), some (.int 1)]) (st' := [.ref ax]) dL_acts_362 rfl ?_
                  refine w_op (K := K_L_acts) (pc' := 365) (ll' := [some (.ref ax), some (.ref (e_xb + 0)), some (.int (nI k9)), some (.int (nI a9)), some (.int (nI b9)), some (.int (nI c9)), some (.int (I f_k_isOut c9)), some (.int 1), some (.int 1)]) (st' := [.int (nI c9), .ref ax]) dL_acts_363 rfl ?_
                  refine w_iconst (K := K_L_acts) (v := 0) dL_acts_365 rfl ?_
                  refine t_callS (K := K_L_acts) (As := [.ref ax, .int (nI c9), .int 0]) (rest := []) dL_acts_366 rfl rM_L_lock (by decide) rfl rfl (by decide) (Nat.le_of_ble_eq_true rfl) (g_lock (by omega) (by omega) h3 hc (Or.inl rfl) (fun h4 => ?_))
                  show s_w _ _ _ 369 _ _ _ _
                  refine w_iconst (K := K_L_acts) (v := 1) dL_acts_369 rfl ?_
                  refine w_icmpeq (K := K_L_acts) (t := 383) dL_acts_370 (by decide) (fun c370 => ?_) (fun c370 => ?_)
                  · refine w_iconst (K := K_L_acts) (v := 1) dL_acts_383 rfl ?_
                    refine w_goto (K := K_L_acts) (t := 388) dL_acts_384 (by decide) ?_
                    refine w_ireturn (K := K_L_acts) dL_acts_388 ?_
                    exact ⟨rfl, kk _ _ _ _ (h4.to (by omega) (by omega) (by omega))⟩
                  · refine w_op (K := K_L_acts) (pc' := 374) (ll' := [some (.ref ax), some (.ref (e_xb + 0)), some (.int (nI k9)), some (.int (nI a9)), some (.int (nI b9)), some (.int (nI c9)), some (.int (I f_k_isOut c9)), some (.int 1), some (.int 1)]) (st' := [.ref ax]) dL_acts_373 rfl ?_
                    refine w_op (K := K_L_acts) (pc' := 376) (ll' := [some (.ref ax), some (.ref (e_xb + 0)), some (.int (nI k9)), some (.int (nI a9)), some (.int (nI b9)), some (.int (nI c9)), some (.int (I f_k_isOut c9)), some (.int 1), some (.int 1)]) (st' := [.int (nI c9), .ref ax]) dL_acts_374 rfl ?_
                    refine w_iconst (K := K_L_acts) (v := 1) dL_acts_376 rfl ?_
                    refine t_callS (K := K_L_acts) (As := [.ref ax, .int (nI c9), .int 1]) (rest := []) dL_acts_377 rfl rM_L_scope (by decide) rfl rfl (by decide) (Nat.le_of_ble_eq_true rfl) (g_scope (by omega) (by omega) h4 hc (Or.inr rfl) (fun h5 => ?_))
                    show s_w _ _ _ 380 _ _ _ _
                    refine w_ifne (K := K_L_acts) (t := 387) dL_acts_380 (by decide) (fun c380 => ?_) (fun c380 => ?_)
                    · refine False.elim (hB.2.elim (fun z => c359 ?_) (fun z => z.elim (fun z => c370 ?_) (fun z => c380 ?_)))
                      · rw [z_stlF (by decide), z]; exact z_01 hbo
                      · rw [if_neg]; rw [z_stlF (by decide)]; exact z
                      · rw [s_up_F (by decide), z_stlF (by decide), z]; rfl
                    · refine w_iconst (K := K_L_acts) (v := 1) dL_acts_383 rfl ?_
                      refine w_goto (K := K_L_acts) (t := 388) dL_acts_384 (by decide) ?_
                      refine w_ireturn (K := K_L_acts) dL_acts_388 ?_
                      exact ⟨rfl, kk _ _ _ _ (h5.to (by omega) (by omega) (by omega))⟩

set_option maxRecDepth 100000 in
set_option maxHeartbeats 400000 in
theorem ac_389 {X : e_XT} {d T e ax k9 a9 b9 c9 : Nat} {p : e_Sp} {I : e_I} {J : e_Jt} {c : Nat × Nat} {w : e_Rw1} {Q : e_Rt → e_SS → Prop} {x6 x7 x8 : Option Value} (hT : T + 7 ≤ 500) (he : e ≤ 390) (h : z_O T e ax (p, I, J, c, w)) (ha : a9 < 30) (hb : b9 < 3) (hc : c9 < 9) (hX : v_X X) (kk : ∀ p' c' A JA, z_O (T + 6) 0 ax (p', A, JA, c', w) → Q (.inl (some (.int 1))) (p', A, JA, c', w)) : s_w X (d + 13) K_L_acts 389 [some (.ref ax), some (.ref (e_xb + 0)), some (.int (nI k9)), some (.int (nI a9)), some (.int (nI b9)), some (.int (nI c9)), x6, x7, x8] [] (p, I, J, c, w) (fun r S' => e_rcr (some FieldType.boolean) r = true ∧ Q r S') := by
  obtain ⟨np, I', J', hQ⟩ := h.q
  refine w_op (K := K_L_acts) (pc' := 390) (ll' := [some (.ref ax), some (.ref (e_xb + 0)), some (.int (nI k9)), some (.int (nI a9)), some (.int (nI b9)), some (.int (nI c9)), x6, x7, x8]) (st' := [.ref ax]) dL_acts_389 rfl ?_
  refine w_iconst (K := K_L_acts) (v := 0) dL_acts_390 rfl ?_
  refine t_callS (K := K_L_acts) (As := [.ref ax, .int 0]) (rest := []) dL_acts_391 rfl rM_L_frame (by decide) rfl rfl (by decide) (Nat.le_of_ble_eq_true rfl) (g_frame (by omega) he h (fun g9 m9 hg9 eg9 em9 hm9 h1 => ?_) (fun hx1 => ?_))
  · show s_w _ _ _ 394 _ _ _ _
    refine w_bipush (K := K_L_acts) (v := (-79)) dL_acts_394 rfl ?_
    refine w_icmpeq (K := K_L_acts) (t := 407) dL_acts_396 (by decide) (fun c396 => ?_) (fun c396 => ?_)
    · exact absurd c396 (z_neg (by omega) (by decide))
    · refine w_op (K := K_L_acts) (pc' := 400) (ll' := [some (.ref ax), some (.ref (e_xb + 0)), some (.int (nI k9)), some (.int (nI a9)), some (.int (nI b9)), some (.int (nI c9)), x6, x7, x8]) (st' := [.ref ax]) dL_acts_399 rfl ?_
      refine w_iconst (K := K_L_acts) (v := 0) dL_acts_400 rfl ?_
      refine t_callS (K := K_L_acts) (As := [.ref ax, .int 0]) (rest := []) dL_acts_401 rfl rM_L_turnTo (by decide) rfl rfl (by decide) (Nat.le_of_ble_eq_true rfl) (g_turnTo (by omega) (by omega) h1 (z_frm (I := I) (J := J) hg9 eg9 hm9 (fun i _ => h.bo rfl i) rfl rfl).1 (fun p2 c2 h2 => ?_))
      show s_w _ _ _ 404 _ _ _ _
      refine w_ifne (K := K_L_acts) (t := 411) dL_acts_404 (by decide) (fun c404 => ?_) (fun c404 => ?_)
      · exact absurd (z_frm (I := I) (J := J) hg9 eg9 hm9 (fun i _ => h.bo rfl i) rfl rfl).2 c404
      · refine w_iconst (K := K_L_acts) (v := 1) dL_acts_407 rfl ?_
        refine w_goto (K := K_L_acts) (t := 412) dL_acts_408 (by decide) ?_
        refine w_ireturn (K := K_L_acts) dL_acts_412 ?_
        exact ⟨rfl, kk _ _ _ _ (h2.to (by omega) (by omega) (by omega))⟩
  · show s_w _ _ _ 394 _ _ _ _
    refine w_bipush (K := K_L_acts) (v := (-79)) dL_acts_394 rfl ?_
    refine w_icmpeq (K := K_L_acts) (t := 407) dL_acts_396 (by decide) (fun c396 => ?_) (fun c396 => ?_)
    · refine w_iconst (K := K_L_acts) (v := 1) dL_acts_407 rfl ?_
      refine w_goto (K := K_L_acts) (t := 412) dL_acts_408 (by decide) ?_
      refine w_ireturn (K := K_L_acts) dL_acts_412 ?_
      exact ⟨rfl, kk _ _ _ _ (hx1.to (by omega) (by omega) (by omega))⟩
    · exact absurd rfl c396

set_option maxRecDepth 100000 in
set_option maxHeartbeats 400000 in
theorem ac_413 {X : e_XT} {d T e ax k9 a9 b9 c9 : Nat} {p : e_Sp} {I : e_I} {J : e_Jt} {c : Nat × Nat} {w : e_Rw1} {Q : e_Rt → e_SS → Prop} {x6 x7 x8 : Option Value} (hT : T + 7 ≤ 500) (he : e ≤ 390) (h : z_O T e ax (p, I, J, c, w)) (ha : a9 < 30) (hb : b9 < 3) (hc : c9 < 9) (hX : v_X X) (kk : ∀ p' c' A JA, z_O (T + 6) 0 ax (p', A, JA, c', w) → Q (.inl (some (.int 1))) (p', A, JA, c', w)) : s_w X (d + 13) K_L_acts 413 [some (.ref ax), some (.ref (e_xb + 0)), some (.int (nI k9)), some (.int (nI a9)), some (.int (nI b9)), some (.int (nI c9)), x6, x7, x8] [] (p, I, J, c, w) (fun r S' => e_rcr (some FieldType.boolean) r = true ∧ Q r S') := by
  obtain ⟨np, I', J', hQ⟩ := h.q
  refine w_op (K := K_L_acts) (pc' := 414) (ll' := [some (.ref ax), some (.ref (e_xb + 0)), some (.int (nI k9)), some (.int (nI a9)), some (.int (nI b9)), some (.int (nI c9)), x6, x7, x8]) (st' := [.ref ax]) dL_acts_413 rfl ?_
  refine w_op (K := K_L_acts) (pc' := 416) (ll' := [some (.ref ax), some (.ref (e_xb + 0)), some (.int (nI k9)), some (.int (nI a9)), some (.int (nI b9)), some (.int (nI c9)), x6, x7, x8]) (st' := [.int (nI c9), .ref ax]) dL_acts_414 rfl ?_
  refine w_ldcs (K := K_L_acts) (i := 0) (by decide) rfl dL_acts_416 ?_
  refine w_op (K := K_L_acts) (pc' := 419) (ll' := [some (.ref ax), some (.ref (e_xb + 0)), some (.int (nI k9)), some (.int (nI a9)), some (.int (nI b9)), some (.int (nI c9)), x6, x7, x8]) (st' := [.int (nI a9), .ref (e_xb + (10 + 0)), .int (nI c9), .ref ax]) dL_acts_418 rfl ?_
  refine w_iconst (K := K_L_acts) (v := (nI 4)) dL_acts_419 rfl ?_
  refine w_op (K := K_L_acts) (pc' := 421) (ll' := [some (.ref ax), some (.ref (e_xb + 0)), some (.int (nI k9)), some (.int (nI a9)), some (.int (nI b9)), some (.int (nI c9)), x6, x7, x8]) (st' := [.int ((nI a9) - (nI a9) / (nI 4) * (nI 4)), .ref (e_xb + (10 + 0)), .int (nI c9), .ref ax]) dL_acts_420 (by rfl) ?_
  rw [z_rem (by omega) (by decide)]
  refine w_callStr (K := K_L_acts) (As := [.int (nI (a9 % 4))]) (rest := [.int (nI c9), .ref ax]) (by decide) dL_acts_421 rfl rM_J0_charAt_5068e (by decide) rfl rfl (by decide) rfl (Nat.le_of_ble_eq_true rfl) (c_charAt (i := 0) (y := a9 % 4) (d := d + 9) (by decide) (show a9 % 4 < 4 from Nat.mod_lt _ (by decide)) ?_)
  show s_w _ _ _ 424 _ _ _ _
  refine w_sipush (K := K_L_acts) (v := (nI 200)) dL_acts_424 rfl ?_
  refine w_op (K := K_L_acts) (pc' := 428) (ll' := [some (.ref ax), some (.ref (e_xb + 0)), some (.int (nI k9)), some (.int (nI a9)), some (.int (nI b9)), some (.int (nI c9)), x6, x7, x8]) (st' := [.int (nI a9), .int (nI 200), .int (z_ch 0 (a9 % 4)), .int (nI c9), .ref ax]) dL_acts_427 rfl ?_
  refine w_op (K := K_L_acts) (pc' := 429) (ll' := [some (.ref ax), some (.ref (e_xb + 0)), some (.int (nI k9)), some (.int (nI a9)), some (.int (nI b9)), some (.int (nI c9)), x6, x7, x8]) (st' := [.int ((nI 200) + (nI a9)), .int (z_ch 0 (a9 % 4)), .int (nI c9), .ref ax]) dL_acts_428 rfl ?_
  rw [nI_add]
  refine w_iconst (K := K_L_acts) (v := (nI 3)) dL_acts_429 rfl ?_
  refine w_op (K := K_L_acts) (pc' := 432) (ll' := [some (.ref ax), some (.ref (e_xb + 0)), some (.int (nI k9)), some (.int (nI a9)), some (.int (nI b9)), some (.int (nI c9)), x6, x7, x8]) (st' := [.int (nI b9), .int (nI 3), .int (nI (200 + a9)), .int (z_ch 0 (a9 % 4)), .int (nI c9), .ref ax]) dL_acts_430 rfl ?_
  refine w_op (K := K_L_acts) (pc' := 433) (ll' := [some (.ref ax), some (.ref (e_xb + 0)), some (.int (nI k9)), some (.int (nI a9)), some (.int (nI b9)), some (.int (nI c9)), x6, x7, x8]) (st' := [.int ((nI 3) + (nI b9)), .int (nI (200 + a9)), .int (z_ch 0 (a9 % 4)), .int (nI c9), .ref ax]) dL_acts_432 rfl ?_
  rw [nI_add]
  refine t_callS (K := K_L_acts) (As := [.ref ax, .int (nI c9), .int (z_ch 0 (a9 % 4)), .int (nI (200 + a9)), .int (nI (3 + b9))]) (rest := []) dL_acts_433 rfl rM_L_wire (by decide) rfl rfl (by decide) (Nat.le_of_ble_eq_true rfl) (g_wire (by omega) he h (show c9 < 16 by omega) (z_c0 _ (Nat.mod_lt _ (by decide))) (z_is2 ha _) (z_is3 hb _) (fun p1 c1 h1 => ?_))
  show s_w _ _ _ 436 _ _ _ _
  refine w_op (K := K_L_acts) (pc' := 437) (ll' := [some (.ref ax), some (.ref (e_xb + 0)), some (.int (nI k9)), some (.int (nI a9)), some (.int (nI b9)), some (.int (nI c9)), x6, x7, x8]) (st' := [.ref ax, .int _]) dL_acts_436 rfl ?_
  refine w_op (K := K_L_acts) (pc' := 439) (ll' := [some (.ref ax), some (.ref (e_xb + 0)), some (.int (nI k9)), some (.int (nI a9)), some (.int (nI b9)), some (.int (nI c9)), x6, x7, x8]) (st' := [.int (nI c9), .ref ax, .int _]) dL_acts_437 rfl ?_
  refine t_callS (K := K_L_acts) (As := [.ref ax, .int (nI c9)]) (rest := [.int _]) dL_acts_439 rfl rM_L_isOnRelay (by decide) rfl rfl (by decide) (Nat.le_of_ble_eq_true rfl) (q_isOnRelay_ h1 (show c9 < 16 by omega) ?_)
  show s_w _ _ _ 442 _ _ _ _
  refine w_icmpne (K := K_L_acts) (t := 464) dL_acts_442 (by decide) (fun c442 => ?_) (fun c442 => ?_)
  · exact absurd rfl c442
  · refine w_op (K := K_L_acts) (pc' := 446) (ll' := [some (.ref ax), some (.ref (e_xb + 0)), some (.int (nI k9)), some (.int (nI a9)), some (.int (nI b9)), some (.int (nI c9)), x6, x7, x8]) (st' := [.ref ax]) dL_acts_445 rfl ?_
    refine w_op (K := K_L_acts) (pc' := 448) (ll' := [some (.ref ax), some (.ref (e_xb + 0)), some (.int (nI k9)), some (.int (nI a9)), some (.int (nI b9)), some (.int (nI c9)), x6, x7, x8]) (st' := [.int (nI c9), .ref ax]) dL_acts_446 rfl ?_
    refine w_op (K := K_L_acts) (pc' := 449) (ll' := [some (.ref ax), some (.ref (e_xb + 0)), some (.int (nI k9)), some (.int (nI a9)), some (.int (nI b9)), some (.int (nI c9)), x6, x7, x8]) (st' := [.int (nI a9), .int (nI c9), .ref ax]) dL_acts_448 rfl ?_
    refine w_iconst (K := K_L_acts) (v := (nI 5)) dL_acts_449 rfl ?_
    refine w_op (K := K_L_acts) (pc' := 451) (ll' := [some (.ref ax), some (.ref (e_xb + 0)), some (.int (nI k9)), some (.int (nI a9)), some (.int (nI b9)), some (.int (nI c9)), x6, x7, x8]) (st' := [.int ((nI a9) - (nI a9) / (nI 5) * (nI 5)), .int (nI c9), .ref ax]) dL_acts_450 (by rfl) ?_
    rw [z_rem (by omega) (by decide)]
    refine w_iconst (K := K_L_acts) (v := 1) dL_acts_451 rfl ?_
    refine w_op (K := K_L_acts) (pc' := 453) (ll' := [some (.ref ax), some (.ref (e_xb + 0)), some (.int (nI k9)), some (.int (nI a9)), some (.int (nI b9)), some (.int (nI c9)), x6, x7, x8]) (st' := [.int ((nI (a9 % 5)) - 1), .int (nI c9), .ref ax]) dL_acts_452 rfl ?_
    refine t_callS (K := K_L_acts) (As := [.ref ax, .int (nI c9), .int ((nI (a9 % 5)) - 1)]) (rest := []) dL_acts_453 rfl rM_L_drive (by decide) rfl rfl (by decide) (Nat.le_of_ble_eq_true rfl) (g_drive (by omega) (by omega) h1 hc (z_dr (Nat.mod_lt _ (by decide))) (fun p2 c2 h2 => ?_))
    show s_w _ _ _ 456 _ _ _ _
    refine w_iconst (K := K_L_acts) (v := (-1)) dL_acts_456 rfl ?_
    refine w_icmplt (K := K_L_acts) (t := 464) dL_acts_457 (by decide) (fun c457 => ?_) (fun c457 => ?_)
    · exact absurd c457 (Int32.not_lt.mpr (by obtain ⟨np1, I1, J1, hQ1⟩ := h1.q; exact hQ1.rly hc))
    · refine w_iconst (K := K_L_acts) (v := 1) dL_acts_460 rfl ?_
      refine w_goto (K := K_L_acts) (t := 465) dL_acts_461 (by decide) ?_
      refine w_ireturn (K := K_L_acts) dL_acts_465 ?_
      exact ⟨rfl, kk _ _ _ _ (h2.to (by omega) (by omega) (by omega))⟩

set_option maxRecDepth 100000 in
set_option maxHeartbeats 400000 in
theorem ac_466 {X : e_XT} {d T e ax k9 a9 b9 c9 : Nat} {p : e_Sp} {I : e_I} {J : e_Jt} {c : Nat × Nat} {w : e_Rw1} {Q : e_Rt → e_SS → Prop} {x6 x7 x8 : Option Value} (hT : T + 7 ≤ 500) (he : e ≤ 390) (h : z_O T e ax (p, I, J, c, w)) (ha : a9 < 30) (hb : b9 < 3) (hc : c9 < 9) (hX : v_X X) (kk : ∀ p' c' A JA, z_O (T + 6) 0 ax (p', A, JA, c', w) → Q (.inl (some (.int 1))) (p', A, JA, c', w)) : s_w X (d + 13) K_L_acts 466 [some (.ref ax), some (.ref (e_xb + 0)), some (.int (nI k9)), some (.int (nI a9)), some (.int (nI b9)), some (.int (nI c9)), x6, x7, x8] [] (p, I, J, c, w) (fun r S' => e_rcr (some FieldType.boolean) r = true ∧ Q r S') := by
  obtain ⟨np, I', J', hQ⟩ := h.q
  refine w_op (K := K_L_acts) (pc' := 467) (ll' := [some (.ref ax), some (.ref (e_xb + 0)), some (.int (nI k9)), some (.int (nI a9)), some (.int (nI b9)), some (.int (nI c9)), x6, x7, x8]) (st' := [.ref ax]) dL_acts_466 rfl ?_
  refine w_op (K := K_L_acts) (pc' := 469) (ll' := [some (.ref ax), some (.ref (e_xb + 0)), some (.int (nI k9)), some (.int (nI a9)), some (.int (nI b9)), some (.int (nI c9)), x6, x7, x8]) (st' := [.int (nI b9), .ref ax]) dL_acts_467 rfl ?_
  refine w_op (K := K_L_acts) (pc' := 471) (ll' := [some (.ref ax), some (.ref (e_xb + 0)), some (.int (nI k9)), some (.int (nI a9)), some (.int (nI b9)), some (.int (nI c9)), x6, x7, x8]) (st' := [.int (nI c9), .int (nI b9), .ref ax]) dL_acts_469 rfl ?_
  refine t_callS (K := K_L_acts) (As := [.ref ax, .int (nI b9), .int (nI c9)]) (rest := []) dL_acts_471 rfl rM_L_setReversible (by decide) rfl rfl (by decide) (Nat.le_of_ble_eq_true rfl) (g_setReversible (by omega) he h (show b9 < 4 by omega) hc (fun h1 => ?_))
  show s_w _ _ _ 474 _ _ _ _
  refine w_iconst (K := K_L_acts) (v := (-1)) dL_acts_474 rfl ?_
  refine w_icmplt (K := K_L_acts) (t := 491) dL_acts_475 (by decide) (fun c475 => ?_) (fun c475 => ?_)
  · exact absurd c475 (Int32.not_lt.mpr (hQ.rvk (by omega)))
  · refine w_op (K := K_L_acts) (pc' := 479) (ll' := [some (.ref ax), some (.ref (e_xb + 0)), some (.int (nI k9)), some (.int (nI a9)), some (.int (nI b9)), some (.int (nI c9)), x6, x7, x8]) (st' := [.ref ax]) dL_acts_478 rfl ?_
    refine w_op (K := K_L_acts) (pc' := 481) (ll' := [some (.ref ax), some (.ref (e_xb + 0)), some (.int (nI k9)), some (.int (nI a9)), some (.int (nI b9)), some (.int (nI c9)), x6, x7, x8]) (st' := [.int (nI b9), .ref ax]) dL_acts_479 rfl ?_
    refine t_callS (K := K_L_acts) (As := [.ref ax, .int (nI b9)]) (rest := []) dL_acts_481 rfl rM_L_pushReversible (by decide) rfl rfl (by decide) (Nat.le_of_ble_eq_true rfl) (g_pushReversible (by omega) (by omega) h1 (show b9 < 4 by omega) hc (z_rvkrv (by omega)) (fun p2 c2 h2 => ?_))
    show s_w _ _ _ 484 _ _ _ _
    refine w_iflt (K := K_L_acts) (t := 491) dL_acts_484 (by decide) (fun c484 => ?_) (fun c484 => ?_)
    · exact absurd c484 z_i01
    · refine w_iconst (K := K_L_acts) (v := 1) dL_acts_487 rfl ?_
      refine w_goto (K := K_L_acts) (t := 492) dL_acts_488 (by decide) ?_
      refine w_ireturn (K := K_L_acts) dL_acts_492 ?_
      exact ⟨rfl, kk _ _ _ _ (h2.to (by omega) (by omega) (by omega))⟩

set_option maxRecDepth 100000 in
set_option maxHeartbeats 400000 in
theorem ac_493 {X : e_XT} {d T e ax k9 a9 b9 c9 : Nat} {p : e_Sp} {I : e_I} {J : e_Jt} {c : Nat × Nat} {w : e_Rw1} {Q : e_Rt → e_SS → Prop} {x6 x7 x8 : Option Value} (hT : T + 7 ≤ 500) (he : e ≤ 390) (h : z_O T e ax (p, I, J, c, w)) (ha : a9 < 30) (hb : b9 < 3) (hc : c9 < 9) (hX : v_X X) (kk : ∀ p' c' A JA, z_O (T + 6) 0 ax (p', A, JA, c', w) → Q (.inl (some (.int 1))) (p', A, JA, c', w)) : s_w X (d + 13) K_L_acts 493 [some (.ref ax), some (.ref (e_xb + 0)), some (.int (nI k9)), some (.int (nI a9)), some (.int (nI b9)), some (.int (nI c9)), x6, x7, x8] [] (p, I, J, c, w) (fun r S' => e_rcr (some FieldType.boolean) r = true ∧ Q r S') := by
  obtain ⟨np, I', J', hQ⟩ := h.q
  refine w_op (K := K_L_acts) (pc' := 494) (ll' := [some (.ref ax), some (.ref (e_xb + 0)), some (.int (nI k9)), some (.int (nI a9)), some (.int (nI b9)), some (.int (nI c9)), x6, x7, x8]) (st' := [.ref ax]) dL_acts_493 rfl ?_
  refine w_op (K := K_L_acts) (pc' := 495) (ll' := [some (.ref ax), some (.ref (e_xb + 0)), some (.int (nI k9)), some (.int (nI a9)), some (.int (nI b9)), some (.int (nI c9)), x6, x7, x8]) (st' := [.int (nI a9), .ref ax]) dL_acts_494 rfl ?_
  refine w_ldcsw (K := K_L_acts) (i := 1) (by decide) rfl dL_acts_495 ?_
  refine w_op (K := K_L_acts) (pc' := 500) (ll' := [some (.ref ax), some (.ref (e_xb + 0)), some (.int (nI k9)), some (.int (nI a9)), some (.int (nI b9)), some (.int (nI c9)), x6, x7, x8]) (st' := [.int (nI b9), .ref (e_xb + (10 + 1)), .int (nI a9), .ref ax]) dL_acts_498 rfl ?_
  refine w_callStr (K := K_L_acts) (As := [.int (nI b9)]) (rest := [.int (nI a9), .ref ax]) (by decide) dL_acts_500 rfl rM_J0_charAt_5068e (by decide) rfl rfl (by decide) rfl (Nat.le_of_ble_eq_true rfl) (c_charAt (i := 1) (y := b9) (d := d + 9) (by decide) (show b9 < 4 by omega) ?_)
  show s_w _ _ _ 503 _ _ _ _
  refine t_callS (K := K_L_acts) (As := [.ref ax, .int (nI a9), .int (z_ch 1 b9)]) (rest := []) dL_acts_503 rfl rM_L_realise (by decide) rfl rfl (by decide) (Nat.le_of_ble_eq_true rfl) (g_realise (by omega) he h hX (show a9 < 32 by omega) (z_c1 _ hb) (fun hd9 p1 c1 h1 => ?_) (fun hd9 hx1 => ?_))
  · show s_w _ _ _ 506 _ _ _ _
    obtain ⟨⟨m9, hm9, em9⟩, hp9, ha9⟩ := z_pch hX hQ.z4 (show a9 < 32 by omega) (z_c1 _ hb) hd9
    rw [em9]
    refine w_op (K := K_L_acts) (pc' := 508) (ll' := [some (.ref ax), some (.ref (e_xb + 0)), some (.int (nI k9)), some (.int (nI a9)), some (.int (nI b9)), some (.int (nI c9)), some (.int (nI m9)), x7, x8]) (st' := []) dL_acts_506 rfl ?_
    refine w_op (K := K_L_acts) (pc' := 510) (ll' := [some (.ref ax), some (.ref (e_xb + 0)), some (.int (nI k9)), some (.int (nI a9)), some (.int (nI b9)), some (.int (nI c9)), some (.int (nI m9)), x7, x8]) (st' := [.int (nI m9)]) dL_acts_508 rfl ?_
    refine w_bipush (K := K_L_acts) (v := (-76)) dL_acts_510 rfl ?_
    refine w_icmpeq (K := K_L_acts) (t := 538) dL_acts_512 (by decide) (fun c512 => ?_) (fun c512 => ?_)
    · exact absurd c512 (z_neg (by omega) (by decide))
    · refine w_op (K := K_L_acts) (pc' := 517) (ll' := [some (.ref ax), some (.ref (e_xb + 0)), some (.int (nI k9)), some (.int (nI a9)), some (.int (nI b9)), some (.int (nI c9)), some (.int (nI m9)), x7, x8]) (st' := [.int (nI m9)]) dL_acts_515 rfl ?_
      refine w_iflt (K := K_L_acts) (t := 542) dL_acts_517 (by decide) (fun c517 => ?_) (fun c517 => ?_)
      · exact absurd c517 (nI_pos (by omega))
      · refine w_op (K := K_L_acts) (pc' := 521) (ll' := [some (.ref ax), some (.ref (e_xb + 0)), some (.int (nI k9)), some (.int (nI a9)), some (.int (nI b9)), some (.int (nI c9)), some (.int (nI m9)), x7, x8]) (st' := [.ref ax]) dL_acts_520 rfl ?_
        refine w_iconst (K := K_L_acts) (v := (nI 0)) dL_acts_521 rfl ?_
        refine w_op (K := K_L_acts) (pc' := 523) (ll' := [some (.ref ax), some (.ref (e_xb + 0)), some (.int (nI k9)), some (.int (nI a9)), some (.int (nI b9)), some (.int (nI c9)), some (.int (nI m9)), x7, x8]) (st' := [.int (nI a9), .int (nI 0), .ref ax]) dL_acts_522 rfl ?_
        refine t_callS (K := K_L_acts) (As := [.ref ax, .int (nI 0), .int (nI a9)]) (rest := []) dL_acts_523 rfl rM_L_isDown (by decide) rfl rfl (by decide) (Nat.le_of_ble_eq_true rfl) (q_isDown_ h1 (z_isk (d := 0) (by decide) (show a9 < 61 by omega) (fun _ => by omega)).1 ?_)
        show s_w _ _ _ 526 _ _ _ _
        refine w_iconst (K := K_L_acts) (v := 1) dL_acts_526 rfl ?_
        refine w_icmpne (K := K_L_acts) (t := 542) dL_acts_527 (by decide) (fun c527 => ?_) (fun c527 => ?_)
        · exfalso; exact c527 ((z_dnv (d := 0) (by decide) (by omega) (fun _ => by omega)).trans (if_neg (by rw [z_stlF (by decide), show 0 * 61 + a9 = a9 by omega]; exact hp9)))
        · refine w_op (K := K_L_acts) (pc' := 531) (ll' := [some (.ref ax), some (.ref (e_xb + 0)), some (.int (nI k9)), some (.int (nI a9)), some (.int (nI b9)), some (.int (nI c9)), some (.int (nI m9)), x7, x8]) (st' := [.ref ax]) dL_acts_530 rfl ?_
          refine l_callH (K := K_L_acts) (As := []) (rest := []) dL_acts_531 rfl rM_X11_lift (by decide) rfl rfl (by decide) rfl (Nat.le_of_ble_eq_true rfl) h1.hf (g_lift (by omega) (by omega) h1 (fun p2 c2 h2 => ?_))
          show s_w _ _ _ 534 _ _ _ _
          refine w_iconst (K := K_L_acts) (v := 4) dL_acts_534 rfl ?_
          refine w_icmplt (K := K_L_acts) (t := 542) dL_acts_535 (by decide) (fun c535 => ?_) (fun c535 => ?_)
          · exact absurd c535 (Int32.not_lt.mpr (by rw [z_rla.2, z_all_c (A := (s_stl p 9 3 _).1) (z_stlF (by decide))]; exact nI_le (a := 4) ha9 (by have := z_all_le (I := s_pch (s_cho X I (s_fig (z_ch 1 b9)) (nI a9))); omega)))
          · refine w_iconst (K := K_L_acts) (v := 1) dL_acts_538 rfl ?_
            refine w_goto (K := K_L_acts) (t := 543) dL_acts_539 (by decide) ?_
            refine w_ireturn (K := K_L_acts) dL_acts_543 ?_
            exact ⟨rfl, kk _ _ _ _ (h2.to (by omega) (by omega) (by omega))⟩
  · show s_w _ _ _ 506 _ _ _ _
    refine w_op (K := K_L_acts) (pc' := 508) (ll' := [some (.ref ax), some (.ref (e_xb + 0)), some (.int (nI k9)), some (.int (nI a9)), some (.int (nI b9)), some (.int (nI c9)), some (.int (-76)), x7, x8]) (st' := []) dL_acts_506 rfl ?_
    refine w_op (K := K_L_acts) (pc' := 510) (ll' := [some (.ref ax), some (.ref (e_xb + 0)), some (.int (nI k9)), some (.int (nI a9)), some (.int (nI b9)), some (.int (nI c9)), some (.int (-76)), x7, x8]) (st' := [.int (-76)]) dL_acts_508 rfl ?_
    refine w_bipush (K := K_L_acts) (v := (-76)) dL_acts_510 rfl ?_
    refine w_icmpeq (K := K_L_acts) (t := 538) dL_acts_512 (by decide) (fun c512 => ?_) (fun c512 => ?_)
    · refine w_iconst (K := K_L_acts) (v := 1) dL_acts_538 rfl ?_
      refine w_goto (K := K_L_acts) (t := 543) dL_acts_539 (by decide) ?_
      refine w_ireturn (K := K_L_acts) dL_acts_543 ?_
      exact ⟨rfl, kk _ _ _ _ (hx1.to (by omega) (by omega) (by omega))⟩
    · exact absurd rfl c512

set_option maxRecDepth 100000 in
set_option maxHeartbeats 400000 in
theorem ac_544 {X : e_XT} {d T e ax k9 a9 b9 c9 : Nat} {p : e_Sp} {I : e_I} {J : e_Jt} {c : Nat × Nat} {w : e_Rw1} {Q : e_Rt → e_SS → Prop} {x6 x7 x8 : Option Value} (hT : T + 7 ≤ 500) (he : e ≤ 390) (h : z_O T e ax (p, I, J, c, w)) (ha : a9 < 30) (hb : b9 < 3) (hc : c9 < 9) (hX : v_X X) (kk : ∀ p' c' A JA, z_O (T + 6) 0 ax (p', A, JA, c', w) → Q (.inl (some (.int 1))) (p', A, JA, c', w)) : s_w X (d + 13) K_L_acts 544 [some (.ref ax), some (.ref (e_xb + 0)), some (.int (nI k9)), some (.int (nI a9)), some (.int (nI b9)), some (.int (nI c9)), x6, x7, x8] [] (p, I, J, c, w) (fun r S' => e_rcr (some FieldType.boolean) r = true ∧ Q r S') := by
  obtain ⟨np, I', J', hQ⟩ := h.q
  refine w_op (K := K_L_acts) (pc' := 545) (ll' := [some (.ref ax), some (.ref (e_xb + 0)), some (.int (nI k9)), some (.int (nI a9)), some (.int (nI b9)), some (.int (nI c9)), x6, x7, x8]) (st' := [.ref ax]) dL_acts_544 rfl ?_
  refine w_ldcsw (K := K_L_acts) (i := 2) (by decide) rfl dL_acts_545 ?_
  refine w_op (K := K_L_acts) (pc' := 550) (ll' := [some (.ref ax), some (.ref (e_xb + 0)), some (.int (nI k9)), some (.int (nI a9)), some (.int (nI b9)), some (.int (nI c9)), x6, x7, x8]) (st' := [.int (nI b9), .ref (e_xb + (10 + 2)), .ref ax]) dL_acts_548 rfl ?_
  refine w_callStr (K := K_L_acts) (As := [.int (nI b9)]) (rest := [.ref ax]) (by decide) dL_acts_550 rfl rM_J0_charAt_5068e (by decide) rfl rfl (by decide) rfl (Nat.le_of_ble_eq_true rfl) (c_charAt (i := 2) (y := b9) (d := d + 9) (by decide) (show b9 < 3 by omega) ?_)
  show s_w _ _ _ 553 _ _ _ _
  refine t_callS (K := K_L_acts) (As := [.ref ax, .int (z_ch 2 b9)]) (rest := []) dL_acts_553 rfl rM_L_record (by decide) rfl rfl (by decide) (Nat.le_of_ble_eq_true rfl) (g_record (by omega) he h (z_c2 _ hb) (fun A1 h1 => ?_))
  show s_w _ _ _ 556 _ _ _ _
  refine w_ifle (K := K_L_acts) (t := 570) dL_acts_556 (by decide) (fun c556 => ?_) (fun c556 => ?_)
  · exact absurd c556 (Int32.not_le.mpr hQ.rec)
  · refine w_op (K := K_L_acts) (pc' := 560) (ll' := [some (.ref ax), some (.ref (e_xb + 0)), some (.int (nI k9)), some (.int (nI a9)), some (.int (nI b9)), some (.int (nI c9)), x6, x7, x8]) (st' := [.ref ax]) dL_acts_559 rfl ?_
    refine l_callH (K := K_L_acts) (As := []) (rest := []) dL_acts_560 rfl rM_X11_recorded (by decide) rfl rfl (by decide) rfl (Nat.le_of_ble_eq_true rfl) h1.hf (q_recorded_ h1 ?_)
    show s_w _ _ _ 563 _ _ _ _
    refine w_iflt (K := K_L_acts) (t := 570) dL_acts_563 (by decide) (fun c563 => ?_) (fun c563 => ?_)
    · exact absurd c563 (Int32.not_lt.mpr (by obtain ⟨np1, I1, J1, hQ1⟩ := h1.q; exact hQ1.red))
    · refine w_iconst (K := K_L_acts) (v := 1) dL_acts_566 rfl ?_
      refine w_goto (K := K_L_acts) (t := 571) dL_acts_567 (by decide) ?_
      refine w_ireturn (K := K_L_acts) dL_acts_571 ?_
      exact ⟨rfl, kk _ _ _ _ (h1.to (by omega) (by omega) (by omega))⟩

set_option maxRecDepth 100000 in
set_option maxHeartbeats 400000 in
theorem ac_572 {X : e_XT} {d T e ax k9 a9 b9 c9 : Nat} {p : e_Sp} {I : e_I} {J : e_Jt} {c : Nat × Nat} {w : e_Rw1} {Q : e_Rt → e_SS → Prop} {x6 x7 x8 : Option Value} (hT : T + 7 ≤ 500) (he : e ≤ 390) (h : z_O T e ax (p, I, J, c, w)) (ha : a9 < 30) (hb : b9 < 3) (hc : c9 < 9) (hX : v_X X) (kk : ∀ p' c' A JA, z_O (T + 6) 0 ax (p', A, JA, c', w) → Q (.inl (some (.int 1))) (p', A, JA, c', w)) : s_w X (d + 13) K_L_acts 572 [some (.ref ax), some (.ref (e_xb + 0)), some (.int (nI k9)), some (.int (nI a9)), some (.int (nI b9)), some (.int (nI c9)), x6, x7, x8] [] (p, I, J, c, w) (fun r S' => e_rcr (some FieldType.boolean) r = true ∧ Q r S') := by
  obtain ⟨np, I', J', hQ⟩ := h.q
  refine w_op (K := K_L_acts) (pc' := 573) (ll' := [some (.ref ax), some (.ref (e_xb + 0)), some (.int (nI k9)), some (.int (nI a9)), some (.int (nI b9)), some (.int (nI c9)), x6, x7, x8]) (st' := [.ref ax]) dL_acts_572 rfl ?_
  refine t_callS (K := K_L_acts) (As := [.ref ax]) (rest := []) dL_acts_573 rfl rM_L_playBack (by decide) rfl rfl (by decide) (Nat.le_of_ble_eq_true rfl) (g_playBack (by omega) he h (fun p1 c1 A1 JA1 v1 hv1 h1 => ?_) (fun hz1 hx1 => ?_))
  · show s_w _ _ _ 576 _ _ _ _
    refine w_op (K := K_L_acts) (pc' := 578) (ll' := [some (.ref ax), some (.ref (e_xb + 0)), some (.int (nI k9)), some (.int (nI a9)), some (.int (nI b9)), some (.int (nI c9)), some (.int (nI v1)), x7, x8]) (st' := []) dL_acts_576 rfl ?_
    refine w_op (K := K_L_acts) (pc' := 580) (ll' := [some (.ref ax), some (.ref (e_xb + 0)), some (.int (nI k9)), some (.int (nI a9)), some (.int (nI b9)), some (.int (nI c9)), some (.int (nI v1)), x7, x8]) (st' := [.int (nI v1)]) dL_acts_578 rfl ?_
    refine w_bipush (K := K_L_acts) (v := (-75)) dL_acts_580 rfl ?_
    refine w_icmpne (K := K_L_acts) (t := 600) dL_acts_582 (by decide) (fun c582 => ?_) (fun c582 => ?_)
    · refine w_op (K := K_L_acts) (pc' := 602) (ll' := [some (.ref ax), some (.ref (e_xb + 0)), some (.int (nI k9)), some (.int (nI a9)), some (.int (nI b9)), some (.int (nI c9)), some (.int (nI v1)), x7, x8]) (st' := [.int (nI v1)]) dL_acts_600 rfl ?_
      refine w_iflt (K := K_L_acts) (t := 609) dL_acts_602 (by decide) (fun c602 => ?_) (fun c602 => ?_)
      · exact absurd c602 (nI_pos (by omega))
      · refine w_iconst (K := K_L_acts) (v := 1) dL_acts_605 rfl ?_
        refine w_goto (K := K_L_acts) (t := 610) dL_acts_606 (by decide) ?_
        refine w_ireturn (K := K_L_acts) dL_acts_610 ?_
        exact ⟨rfl, kk _ _ _ _ (h1.to (by omega) (by omega) (by omega))⟩
    · exact absurd c582 (z_neg (by omega) (by decide))
  · show s_w _ _ _ 576 _ _ _ _
    refine w_op (K := K_L_acts) (pc' := 578) (ll' := [some (.ref ax), some (.ref (e_xb + 0)), some (.int (nI k9)), some (.int (nI a9)), some (.int (nI b9)), some (.int (nI c9)), some (.int (-75)), x7, x8]) (st' := []) dL_acts_576 rfl ?_
    refine w_op (K := K_L_acts) (pc' := 580) (ll' := [some (.ref ax), some (.ref (e_xb + 0)), some (.int (nI k9)), some (.int (nI a9)), some (.int (nI b9)), some (.int (nI c9)), some (.int (-75)), x7, x8]) (st' := [.int (-75)]) dL_acts_578 rfl ?_
    refine w_bipush (K := K_L_acts) (v := (-75)) dL_acts_580 rfl ?_
    refine w_icmpne (K := K_L_acts) (t := 600) dL_acts_582 (by decide) (fun c582 => ?_) (fun c582 => ?_)
    · exact absurd rfl c582
    · refine w_op (K := K_L_acts) (pc' := 586) (ll' := [some (.ref ax), some (.ref (e_xb + 0)), some (.int (nI k9)), some (.int (nI a9)), some (.int (nI b9)), some (.int (nI c9)), some (.int (-75)), x7, x8]) (st' := [.ref ax]) dL_acts_585 rfl ?_
      refine l_callH (K := K_L_acts) (As := []) (rest := []) dL_acts_586 rfl rM_X11_recorded (by decide) rfl rfl (by decide) rfl (Nat.le_of_ble_eq_true rfl) hx1.hf (q_recorded_ hx1 ?_)
      show s_w _ _ _ 589 _ _ _ _
      refine w_ifne (K := K_L_acts) (t := 596) dL_acts_589 (by decide) (fun c589 => ?_) (fun c589 => ?_)
      · exact absurd hz1 c589
      · refine w_iconst (K := K_L_acts) (v := 1) dL_acts_592 rfl ?_
        refine w_goto (K := K_L_acts) (t := 610) dL_acts_593 (by decide) ?_
        refine w_ireturn (K := K_L_acts) dL_acts_610 ?_
        exact ⟨rfl, kk _ _ _ _ (hx1.to (by omega) (by omega) (by omega))⟩

set_option maxRecDepth 100000 in
set_option maxHeartbeats 400000 in
theorem ac_611 {X : e_XT} {d T e ax k9 a9 b9 c9 : Nat} {p : e_Sp} {I : e_I} {J : e_Jt} {c : Nat × Nat} {w : e_Rw1} {Q : e_Rt → e_SS → Prop} {x6 x7 x8 : Option Value} (hT : T + 7 ≤ 500) (he : e ≤ 390) (h : z_O T e ax (p, I, J, c, w)) (ha : a9 < 30) (hb : b9 < 3) (hc : c9 < 9) (hX : v_X X) (kk : ∀ p' c' A JA, z_O (T + 6) 0 ax (p', A, JA, c', w) → Q (.inl (some (.int 1))) (p', A, JA, c', w)) : s_w X (d + 13) K_L_acts 611 [some (.ref ax), some (.ref (e_xb + 0)), some (.int (nI k9)), some (.int (nI a9)), some (.int (nI b9)), some (.int (nI c9)), x6, x7, x8] [] (p, I, J, c, w) (fun r S' => e_rcr (some FieldType.boolean) r = true ∧ Q r S') := by
  obtain ⟨np, I', J', hQ⟩ := h.q
  obtain ⟨j9, hj9⟩ := hQ.at hb (y := 45) (by decide)
  refine w_op (K := K_L_acts) (pc' := 612) (ll' := [some (.ref ax), some (.ref (e_xb + 0)), some (.int (nI k9)), some (.int (nI a9)), some (.int (nI b9)), some (.int (nI c9)), x6, x7, x8]) (st' := [.ref ax]) dL_acts_611 rfl ?_
  refine w_op (K := K_L_acts) (pc' := 614) (ll' := [some (.ref ax), some (.ref (e_xb + 0)), some (.int (nI k9)), some (.int (nI a9)), some (.int (nI b9)), some (.int (nI c9)), x6, x7, x8]) (st' := [.int (nI b9), .ref ax]) dL_acts_612 rfl ?_
  refine w_bipush (K := K_L_acts) (v := (nI 45)) dL_acts_614 rfl ?_
  refine w_ldcsw (K := K_L_acts) (i := 3) (by decide) rfl dL_acts_616 ?_
  refine w_op (K := K_L_acts) (pc' := 620) (ll' := [some (.ref ax), some (.ref (e_xb + 0)), some (.int (nI k9)), some (.int (nI a9)), some (.int (nI b9)), some (.int (nI c9)), x6, x7, x8]) (st' := [.int (nI a9), .ref (e_xb + (10 + 3)), .int (nI 45), .int (nI b9), .ref ax]) dL_acts_619 rfl ?_
  refine w_iconst (K := K_L_acts) (v := (nI 3)) dL_acts_620 rfl ?_
  refine w_op (K := K_L_acts) (pc' := 622) (ll' := [some (.ref ax), some (.ref (e_xb + 0)), some (.int (nI k9)), some (.int (nI a9)), some (.int (nI b9)), some (.int (nI c9)), x6, x7, x8]) (st' := [.int ((nI a9) - (nI a9) / (nI 3) * (nI 3)), .ref (e_xb + (10 + 3)), .int (nI 45), .int (nI b9), .ref ax]) dL_acts_621 (by rfl) ?_
  rw [z_rem (by omega) (by decide)]
  refine w_callStr (K := K_L_acts) (As := [.int (nI (a9 % 3))]) (rest := [.int (nI 45), .int (nI b9), .ref ax]) (by decide) dL_acts_622 rfl rM_J0_charAt_5068e (by decide) rfl rfl (by decide) rfl (Nat.le_of_ble_eq_true rfl) (c_charAt (i := 3) (y := a9 % 3) (d := d + 9) (by decide) (show a9 % 3 < 3 from Nat.mod_lt _ (by decide)) ?_)
  show s_w _ _ _ 625 _ _ _ _
  refine t_callS (K := K_L_acts) (As := [.ref ax, .int (nI b9), .int (nI 45), .int (z_ch 3 (a9 % 3))]) (rest := []) dL_acts_625 rfl rM_L_fault (by decide) rfl rfl (by decide) (Nat.le_of_ble_eq_true rfl) (g_fault (by omega) he h j9 hj9 (z_c3 _ (Nat.mod_lt _ (by decide))) (fun p1 c1 h1 => ?_))
  show s_w _ _ _ 628 _ _ _ _
  refine w_ifle (K := K_L_acts) (t := 645) dL_acts_628 (by decide) (fun c628 => ?_) (fun c628 => ?_)
  · exact absurd c628 (Int32.not_le.mpr (hQ.flt hb (by decide) hj9))
  · refine w_op (K := K_L_acts) (pc' := 632) (ll' := [some (.ref ax), some (.ref (e_xb + 0)), some (.int (nI k9)), some (.int (nI a9)), some (.int (nI b9)), some (.int (nI c9)), x6, x7, x8]) (st' := [.ref ax]) dL_acts_631 rfl ?_
    refine w_op (K := K_L_acts) (pc' := 634) (ll' := [some (.ref ax), some (.ref (e_xb + 0)), some (.int (nI k9)), some (.int (nI a9)), some (.int (nI b9)), some (.int (nI c9)), x6, x7, x8]) (st' := [.int (nI b9), .ref ax]) dL_acts_632 rfl ?_
    refine t_callS (K := K_L_acts) (As := [.ref ax, .int (nI b9)]) (rest := []) dL_acts_634 rfl rM_L_hunt (by decide) rfl rfl (by decide) (Nat.le_of_ble_eq_true rfl) (q_hunt_ h1 hb (fun r hr => (by obtain ⟨np1, I1, J1, hQ1⟩ := h1.q; exact hQ1.len hr)) ?_)
    show s_w _ _ _ 637 _ _ _ _
    refine w_iconst (K := K_L_acts) (v := 1) dL_acts_637 rfl ?_
    refine w_icmplt (K := K_L_acts) (t := 645) dL_acts_638 (by decide) (fun c638 => ?_) (fun c638 => ?_)
    · exact absurd c638 (Int32.not_lt.mpr (by obtain ⟨np1, I1, J1, hQ1⟩ := h1.q; exact hQ1.hunt hb))
    · refine w_iconst (K := K_L_acts) (v := 1) dL_acts_641 rfl ?_
      refine w_goto (K := K_L_acts) (t := 646) dL_acts_642 (by decide) ?_
      refine w_ireturn (K := K_L_acts) dL_acts_646 ?_
      exact ⟨rfl, kk _ _ _ _ (h1.to (by omega) (by omega) (by omega))⟩

set_option maxRecDepth 100000 in
set_option maxHeartbeats 400000 in
theorem ac_647 {X : e_XT} {d T e ax k9 a9 b9 c9 : Nat} {p : e_Sp} {I : e_I} {J : e_Jt} {c : Nat × Nat} {w : e_Rw1} {Q : e_Rt → e_SS → Prop} {x6 x7 x8 : Option Value} (hT : T + 7 ≤ 500) (he : e ≤ 390) (h : z_O T e ax (p, I, J, c, w)) (ha : a9 < 30) (hb : b9 < 3) (hc : c9 < 9) (hX : v_X X) (kk : ∀ p' c' A JA, z_O (T + 6) 0 ax (p', A, JA, c', w) → Q (.inl (some (.int 1))) (p', A, JA, c', w)) : s_w X (d + 13) K_L_acts 647 [some (.ref ax), some (.ref (e_xb + 0)), some (.int (nI k9)), some (.int (nI a9)), some (.int (nI b9)), some (.int (nI c9)), x6, x7, x8] [] (p, I, J, c, w) (fun r S' => e_rcr (some FieldType.boolean) r = true ∧ Q r S') := by
  obtain ⟨np, I', J', hQ⟩ := h.q
  refine w_op (K := K_L_acts) (pc' := 648) (ll' := [some (.ref ax), some (.ref (e_xb + 0)), some (.int (nI k9)), some (.int (nI a9)), some (.int (nI b9)), some (.int (nI c9)), x6, x7, x8]) (st' := [.ref ax]) dL_acts_647 rfl ?_
  refine w_op (K := K_L_acts) (pc' := 650) (ll' := [some (.ref ax), some (.ref (e_xb + 0)), some (.int (nI k9)), some (.int (nI a9)), some (.int (nI b9)), some (.int (nI c9)), x6, x7, x8]) (st' := [.int (nI c9), .ref ax]) dL_acts_648 rfl ?_
  refine t_callS (K := K_L_acts) (As := [.ref ax, .int (nI c9)]) (rest := []) dL_acts_650 rfl rM_L_crescendo (by decide) rfl rfl (by decide) (Nat.le_of_ble_eq_true rfl) (g_crescendo (by omega) he h (show c9 ≤ 9 by omega) (fun p1 c1 h1 => ?_))
  show s_w _ _ _ 653 _ _ _ _
  refine w_iflt (K := K_L_acts) (t := 675) dL_acts_653 (by decide) (fun c653 => ?_) (fun c653 => ?_)
  · exact absurd c653 hQ.cre
  · refine w_op (K := K_L_acts) (pc' := 657) (ll' := [some (.ref ax), some (.ref (e_xb + 0)), some (.int (nI k9)), some (.int (nI a9)), some (.int (nI b9)), some (.int (nI c9)), x6, x7, x8]) (st' := [.ref ax]) dL_acts_656 rfl ?_
    refine w_iconst (K := K_L_acts) (v := (nI 3)) dL_acts_657 rfl ?_
    refine w_op (K := K_L_acts) (pc' := 660) (ll' := [some (.ref ax), some (.ref (e_xb + 0)), some (.int (nI k9)), some (.int (nI a9)), some (.int (nI b9)), some (.int (nI c9)), x6, x7, x8]) (st' := [.int (nI b9), .int (nI 3), .ref ax]) dL_acts_658 rfl ?_
    refine w_op (K := K_L_acts) (pc' := 661) (ll' := [some (.ref ax), some (.ref (e_xb + 0)), some (.int (nI k9)), some (.int (nI a9)), some (.int (nI b9)), some (.int (nI c9)), x6, x7, x8]) (st' := [.int ((nI 3) + (nI b9)), .ref ax]) dL_acts_660 rfl ?_
    rw [nI_add]
    refine w_op (K := K_L_acts) (pc' := 662) (ll' := [some (.ref ax), some (.ref (e_xb + 0)), some (.int (nI k9)), some (.int (nI a9)), some (.int (nI b9)), some (.int (nI c9)), x6, x7, x8]) (st' := [.int (nI a9), .int (nI (3 + b9)), .ref ax]) dL_acts_661 rfl ?_
    refine w_bipush (K := K_L_acts) (v := (nI 10)) dL_acts_662 rfl ?_
    refine w_op (K := K_L_acts) (pc' := 665) (ll' := [some (.ref ax), some (.ref (e_xb + 0)), some (.int (nI k9)), some (.int (nI a9)), some (.int (nI b9)), some (.int (nI c9)), x6, x7, x8]) (st' := [.int ((nI a9) - (nI a9) / (nI 10) * (nI 10)), .int (nI (3 + b9)), .ref ax]) dL_acts_664 (by rfl) ?_
    rw [z_rem (by omega) (by decide)]
    refine t_callS (K := K_L_acts) (As := [.ref ax, .int (nI (3 + b9)), .int (nI (a9 % 10))]) (rest := []) dL_acts_665 rfl rM_L_stage (by decide) rfl rfl (by decide) (Nat.le_of_ble_eq_true rfl) (g_stage (by omega) (by omega) h1 ⟨by omega, by omega⟩ (show a9 % 10 ≤ 9 by have := Nat.mod_lt a9 (show 0 < 10 by decide); omega) (fun p2 c2 h2 => ?_))
    show s_w _ _ _ 668 _ _ _ _
    refine w_iflt (K := K_L_acts) (t := 675) dL_acts_668 (by decide) (fun c668 => ?_) (fun c668 => ?_)
    · exact absurd c668 (by obtain ⟨np1, I1, J1, hQ1⟩ := h1.q; exact hQ1.stg (by omega))
    · refine w_iconst (K := K_L_acts) (v := 1) dL_acts_671 rfl ?_
      refine w_goto (K := K_L_acts) (t := 676) dL_acts_672 (by decide) ?_
      refine w_ireturn (K := K_L_acts) dL_acts_676 ?_
      exact ⟨rfl, kk _ _ _ _ (h2.to (by omega) (by omega) (by omega))⟩

set_option maxRecDepth 100000 in
set_option maxHeartbeats 400000 in
theorem ac_677 {X : e_XT} {d T e ax k9 a9 b9 c9 : Nat} {p : e_Sp} {I : e_I} {J : e_Jt} {c : Nat × Nat} {w : e_Rw1} {Q : e_Rt → e_SS → Prop} {x6 x7 x8 : Option Value} (hT : T + 7 ≤ 500) (he : e ≤ 390) (h : z_O T e ax (p, I, J, c, w)) (ha : a9 < 30) (hb : b9 < 3) (hc : c9 < 9) (hX : v_X X) (kk : ∀ p' c' A JA, z_O (T + 6) 0 ax (p', A, JA, c', w) → Q (.inl (some (.int 1))) (p', A, JA, c', w)) : s_w X (d + 13) K_L_acts 677 [some (.ref ax), some (.ref (e_xb + 0)), some (.int (nI k9)), some (.int (nI a9)), some (.int (nI b9)), some (.int (nI c9)), x6, x7, x8] [] (p, I, J, c, w) (fun r S' => e_rcr (some FieldType.boolean) r = true ∧ Q r S') := by
  obtain ⟨np, I', J', hQ⟩ := h.q
  obtain ⟨j9, hj9⟩ := hQ.at hb (y := 45) (by decide)
  refine w_op (K := K_L_acts) (pc' := 678) (ll' := [some (.ref ax), some (.ref (e_xb + 0)), some (.int (nI k9)), some (.int (nI a9)), some (.int (nI b9)), some (.int (nI c9)), x6, x7, x8]) (st' := [.ref ax]) dL_acts_677 rfl ?_
  refine w_op (K := K_L_acts) (pc' := 680) (ll' := [some (.ref ax), some (.ref (e_xb + 0)), some (.int (nI k9)), some (.int (nI a9)), some (.int (nI b9)), some (.int (nI c9)), x6, x7, x8]) (st' := [.int (nI b9), .ref ax]) dL_acts_678 rfl ?_
  refine w_bipush (K := K_L_acts) (v := (nI 45)) dL_acts_680 rfl ?_
  refine w_op (K := K_L_acts) (pc' := 683) (ll' := [some (.ref ax), some (.ref (e_xb + 0)), some (.int (nI k9)), some (.int (nI a9)), some (.int (nI b9)), some (.int (nI c9)), x6, x7, x8]) (st' := [.int (nI a9), .int (nI 45), .int (nI b9), .ref ax]) dL_acts_682 rfl ?_
  refine w_bipush (K := K_L_acts) (v := (nI 15)) dL_acts_683 rfl ?_
  refine w_op (K := K_L_acts) (pc' := 686) (ll' := [some (.ref ax), some (.ref (e_xb + 0)), some (.int (nI k9)), some (.int (nI a9)), some (.int (nI b9)), some (.int (nI c9)), x6, x7, x8]) (st' := [.int ((nI a9) - (nI 15)), .int (nI 45), .int (nI b9), .ref ax]) dL_acts_685 rfl ?_
  refine t_callS (K := K_L_acts) (As := [.ref ax, .int (nI b9), .int (nI 45), .int ((nI a9) - (nI 15))]) (rest := []) dL_acts_686 rfl rM_L_tune (by decide) rfl rfl (by decide) (Nat.le_of_ble_eq_true rfl) (g_tune (by omega) he h j9 hj9 (z_tn _ ha) (fun h1 => ?_))
  show s_w _ _ _ 689 _ _ _ _
  refine w_bipush (K := K_L_acts) (v := (-50)) dL_acts_689 rfl ?_
  refine w_icmplt (K := K_L_acts) (t := 737) dL_acts_691 (by decide) (fun c691 => ?_) (fun c691 => ?_)
  · exact absurd c691 (Int32.not_lt.mpr (by obtain ⟨e1, e2, e3⟩ := hQ.pt hj9; exact Int32.le_iff_toInt_le.mpr (hQ.tun e3).1))
  · have hb2 : (b9 + 1) % 3 < 3 := Nat.mod_lt _ (by decide)
    obtain ⟨np1, I1, J1, hQ1⟩ := h1.q
    obtain ⟨j8, hj8⟩ := hQ1.at hb (y := 45) (by decide)
    obtain ⟨i8, hi8⟩ := hQ1.at hb2 (y := 46) (by decide)
    refine w_op (K := K_L_acts) (pc' := 695) (ll' := [some (.ref ax), some (.ref (e_xb + 0)), some (.int (nI k9)), some (.int (nI a9)), some (.int (nI b9)), some (.int (nI c9)), x6, x7, x8]) (st' := [.ref ax]) dL_acts_694 rfl ?_
    refine w_op (K := K_L_acts) (pc' := 697) (ll' := [some (.ref ax), some (.ref (e_xb + 0)), some (.int (nI k9)), some (.int (nI a9)), some (.int (nI b9)), some (.int (nI c9)), x6, x7, x8]) (st' := [.int (nI b9), .ref ax]) dL_acts_695 rfl ?_
    refine w_bipush (K := K_L_acts) (v := (nI 45)) dL_acts_697 rfl ?_
    refine w_op (K := K_L_acts) (pc' := 701) (ll' := [some (.ref ax), some (.ref (e_xb + 0)), some (.int (nI k9)), some (.int (nI a9)), some (.int (nI b9)), some (.int (nI c9)), x6, x7, x8]) (st' := [.int (nI b9), .int (nI 45), .int (nI b9), .ref ax]) dL_acts_699 rfl ?_
    refine w_iconst (K := K_L_acts) (v := 1) dL_acts_701 rfl ?_
    refine w_op (K := K_L_acts) (pc' := 703) (ll' := [some (.ref ax), some (.ref (e_xb + 0)), some (.int (nI k9)), some (.int (nI a9)), some (.int (nI b9)), some (.int (nI c9)), x6, x7, x8]) (st' := [.int ((nI b9) + 1), .int (nI 45), .int (nI b9), .ref ax]) dL_acts_702 rfl ?_
    rw [nI_1]
    refine w_iconst (K := K_L_acts) (v := (nI 3)) dL_acts_703 rfl ?_
    refine w_op (K := K_L_acts) (pc' := 705) (ll' := [some (.ref ax), some (.ref (e_xb + 0)), some (.int (nI k9)), some (.int (nI a9)), some (.int (nI b9)), some (.int (nI c9)), x6, x7, x8]) (st' := [.int ((nI (b9 + 1)) - (nI (b9 + 1)) / (nI 3) * (nI 3)), .int (nI 45), .int (nI b9), .ref ax]) dL_acts_704 (by rfl) ?_
    rw [z_rem (by omega) (by decide)]
    refine w_bipush (K := K_L_acts) (v := (nI 46)) dL_acts_705 rfl ?_
    refine t_callS (K := K_L_acts) (As := [.ref ax, .int (nI b9), .int (nI 45), .int (nI ((b9 + 1) % 3)), .int (nI 46)]) (rest := []) dL_acts_707 rfl rM_L_tuneTo (by decide) rfl rfl (by decide) (Nat.le_of_ble_eq_true rfl) (g_tuneTo (by omega) (by omega) h1 j8 hj8 i8 hi8 (fun h2 => ?_))
    show s_w _ _ _ 710 _ _ _ _
    refine t_callS (K := K_L_acts) (As := [.int _]) (rest := []) dL_acts_710 rfl rM_J9_abs_0f7a4 (by decide) rfl rfl (by decide) (Nat.le_of_ble_eq_true rfl) (c_abs (d := d + 12) ?_)
    show s_w _ _ _ 713 _ _ _ _
    refine w_sipush (K := K_L_acts) (v := 300) dL_acts_713 rfl ?_
    refine w_icmpgt (K := K_L_acts) (t := 737) dL_acts_716 (by decide) (fun c716 => ?_) (fun c716 => ?_)
    · obtain ⟨np2, I2, J2, hQ2⟩ := h2.q
      have hv := z_tto hQ2 hb hb2 hj8 hi8
      exact absurd c716 (z_abs3 hv)
    · refine w_op (K := K_L_acts) (pc' := 720) (ll' := [some (.ref ax), some (.ref (e_xb + 0)), some (.int (nI k9)), some (.int (nI a9)), some (.int (nI b9)), some (.int (nI c9)), x6, x7, x8]) (st' := [.ref ax]) dL_acts_719 rfl ?_
      refine w_op (K := K_L_acts) (pc' := 722) (ll' := [some (.ref ax), some (.ref (e_xb + 0)), some (.int (nI k9)), some (.int (nI a9)), some (.int (nI b9)), some (.int (nI c9)), x6, x7, x8]) (st' := [.int (nI b9), .ref ax]) dL_acts_720 rfl ?_
      refine w_bipush (K := K_L_acts) (v := (nI 9)) dL_acts_722 rfl ?_
      refine w_op (K := K_L_acts) (pc' := 726) (ll' := [some (.ref ax), some (.ref (e_xb + 0)), some (.int (nI k9)), some (.int (nI a9)), some (.int (nI b9)), some (.int (nI c9)), x6, x7, x8]) (st' := [.int (nI c9), .int (nI 9), .int (nI b9), .ref ax]) dL_acts_724 rfl ?_
      refine w_op (K := K_L_acts) (pc' := 727) (ll' := [some (.ref ax), some (.ref (e_xb + 0)), some (.int (nI k9)), some (.int (nI a9)), some (.int (nI b9)), some (.int (nI c9)), x6, x7, x8]) (st' := [.int ((nI 9) * (nI c9)), .int (nI b9), .ref ax]) dL_acts_726 rfl ?_
      rw [v_nmul]
      refine t_callS (K := K_L_acts) (As := [.ref ax, .int (nI b9), .int (nI (9 * c9))]) (rest := []) dL_acts_727 rfl rM_L_supply (by decide) rfl rfl (by decide) (Nat.le_of_ble_eq_true rfl) (g_supply (by omega) (by omega) h2 hb (show 9 * c9 ≤ 999 by omega) (fun p3 c3 h3 => ?_))
      show s_w _ _ _ 730 _ _ _ _
      refine w_iflt (K := K_L_acts) (t := 737) dL_acts_730 (by decide) (fun c730 => ?_) (fun c730 => ?_)
      · exact absurd c730 (Int32.not_lt.mpr (by obtain ⟨np2, I2, J2, hQ2⟩ := h2.q; exact Int32.le_iff_toInt_le.mpr (hQ2.sup hb).1))
      · refine w_iconst (K := K_L_acts) (v := 1) dL_acts_733 rfl ?_
        refine w_goto (K := K_L_acts) (t := 738) dL_acts_734 (by decide) ?_
        refine w_ireturn (K := K_L_acts) dL_acts_738 ?_
        exact ⟨rfl, kk _ _ _ _ (h3.to (by omega) (by omega) (by omega))⟩

set_option maxRecDepth 100000 in
set_option maxHeartbeats 400000 in
theorem ac_739 {X : e_XT} {d T e ax k9 a9 b9 c9 : Nat} {p : e_Sp} {I : e_I} {J : e_Jt} {c : Nat × Nat} {w : e_Rw1} {Q : e_Rt → e_SS → Prop} {x6 x7 x8 : Option Value} (hT : T + 7 ≤ 500) (he : e ≤ 390) (h : z_O T e ax (p, I, J, c, w)) (ha : a9 < 30) (hb : b9 < 3) (hc : c9 < 9) (hX : v_X X) (kk : ∀ p' c' A JA, z_O (T + 6) 0 ax (p', A, JA, c', w) → Q (.inl (some (.int 1))) (p', A, JA, c', w)) : s_w X (d + 13) K_L_acts 739 [some (.ref ax), some (.ref (e_xb + 0)), some (.int (nI k9)), some (.int (nI a9)), some (.int (nI b9)), some (.int (nI c9)), x6, x7, x8] [] (p, I, J, c, w) (fun r S' => e_rcr (some FieldType.boolean) r = true ∧ Q r S') := by
  obtain ⟨np, I', J', hQ⟩ := h.q
  refine w_op (K := K_L_acts) (pc' := 740) (ll' := [some (.ref ax), some (.ref (e_xb + 0)), some (.int (nI k9)), some (.int (nI a9)), some (.int (nI b9)), some (.int (nI c9)), x6, x7, x8]) (st' := [.ref ax]) dL_acts_739 rfl ?_
  refine w_op (K := K_L_acts) (pc' := 741) (ll' := [some (.ref ax), some (.ref (e_xb + 0)), some (.int (nI k9)), some (.int (nI a9)), some (.int (nI b9)), some (.int (nI c9)), x6, x7, x8]) (st' := [.int (nI a9), .ref ax]) dL_acts_740 rfl ?_
  refine w_bipush (K := K_L_acts) (v := 20) dL_acts_741 rfl ?_
  refine w_icmple (K := K_L_acts) (t := 750) dL_acts_743 (by decide) (fun c743 => ?_) (fun c743 => ?_)
  · refine w_iconst (K := K_L_acts) (v := 0) dL_acts_750 rfl ?_
    refine l_callH (K := K_L_acts) (As := [.int 0]) (rest := []) dL_acts_751 rfl rM_X11_tutti (by decide) rfl rfl (by decide) rfl (Nat.le_of_ble_eq_true rfl) h.hf (g_tutti (by omega) he h (Or.inl rfl) (fun p1 c1 h1 => ?_))
    show s_w _ _ _ 754 _ _ _ _
    refine w_op (K := K_L_acts) (pc' := 756) (ll' := [some (.ref ax), some (.ref (e_xb + 0)), some (.int (nI k9)), some (.int (nI a9)), some (.int (nI b9)), some (.int (nI c9)), some (.int (I f_isTutti 0)), x7, x8]) (st' := []) dL_acts_754 rfl ?_
    refine w_op (K := K_L_acts) (pc' := 757) (ll' := [some (.ref ax), some (.ref (e_xb + 0)), some (.int (nI k9)), some (.int (nI a9)), some (.int (nI b9)), some (.int (nI c9)), some (.int (I f_isTutti 0)), x7, x8]) (st' := [.ref ax]) dL_acts_756 rfl ?_
    refine t_callS (K := K_L_acts) (As := [.ref ax]) (rest := []) dL_acts_757 rfl rM_L_isStep (by decide) rfl rfl (by decide) (Nat.le_of_ble_eq_true rfl) (c_isStep (d := d) (by omega) (by omega) h1 (fun p2 c2 A2 JA2 e2 h2 => ?_))
    show s_w _ _ _ 760 _ _ _ _
    refine w_ifeq (K := K_L_acts) (t := 787) dL_acts_760 (by decide) (fun c760 => ?_) (fun c760 => ?_)
    · exact absurd c760 (by decide)
    · refine w_op (K := K_L_acts) (pc' := 764) (ll' := [some (.ref ax), some (.ref (e_xb + 0)), some (.int (nI k9)), some (.int (nI a9)), some (.int (nI b9)), some (.int (nI c9)), some (.int (I f_isTutti 0)), x7, x8]) (st' := [.ref ax]) dL_acts_763 rfl ?_
      refine w_op (K := K_L_acts) (pc' := 766) (ll' := [some (.ref ax), some (.ref (e_xb + 0)), some (.int (nI k9)), some (.int (nI a9)), some (.int (nI b9)), some (.int (nI c9)), some (.int (I f_isTutti 0)), x7, x8]) (st' := [.int (I f_isTutti 0), .ref ax]) dL_acts_764 rfl ?_
      refine l_callH (K := K_L_acts) (As := [.int (I f_isTutti 0)]) (rest := []) dL_acts_766 rfl rM_X11_tutti (by decide) rfl rfl (by decide) rfl (Nat.le_of_ble_eq_true rfl) h2.hf (g_tutti (by omega) (by omega) h2 (h.bo rfl 0) (fun p3 c3 h3 => ?_))
      show s_w _ _ _ 769 _ _ _ _
      refine w_op (K := K_L_acts) (pc' := 770) (ll' := [some (.ref ax), some (.ref (e_xb + 0)), some (.int (nI k9)), some (.int (nI a9)), some (.int (nI b9)), some (.int (nI c9)), some (.int (I f_isTutti 0)), x7, x8]) (st' := [.int (nI a9), .int (A2 f_isTutti 0)]) dL_acts_769 rfl ?_
      refine w_bipush (K := K_L_acts) (v := 20) dL_acts_770 rfl ?_
      refine w_icmple (K := K_L_acts) (t := 779) dL_acts_772 (by decide) (fun c772 => ?_) (fun c772 => ?_)
      · refine w_iconst (K := K_L_acts) (v := 0) dL_acts_779 rfl ?_
        refine w_icmpne (K := K_L_acts) (t := 787) dL_acts_780 (by decide) (fun c780 => ?_) (fun c780 => ?_)
        · exact absurd (by rw [e2, z_stlF (by decide), s_up_s]) c780
        · refine w_iconst (K := K_L_acts) (v := 1) dL_acts_783 rfl ?_
          refine w_goto (K := K_L_acts) (t := 788) dL_acts_784 (by decide) ?_
          refine w_ireturn (K := K_L_acts) dL_acts_788 ?_
          exact ⟨rfl, kk _ _ _ _ (h3.to (by omega) (by omega) (by omega))⟩
      · exact absurd c743 c772
  · refine w_iconst (K := K_L_acts) (v := 1) dL_acts_746 rfl ?_
    refine w_goto (K := K_L_acts) (t := 751) dL_acts_747 (by decide) ?_
    refine l_callH (K := K_L_acts) (As := [.int 1]) (rest := []) dL_acts_751 rfl rM_X11_tutti (by decide) rfl rfl (by decide) rfl (Nat.le_of_ble_eq_true rfl) h.hf (g_tutti (by omega) he h (Or.inr rfl) (fun p1 c1 h1 => ?_))
    show s_w _ _ _ 754 _ _ _ _
    refine w_op (K := K_L_acts) (pc' := 756) (ll' := [some (.ref ax), some (.ref (e_xb + 0)), some (.int (nI k9)), some (.int (nI a9)), some (.int (nI b9)), some (.int (nI c9)), some (.int (I f_isTutti 0)), x7, x8]) (st' := []) dL_acts_754 rfl ?_
    refine w_op (K := K_L_acts) (pc' := 757) (ll' := [some (.ref ax), some (.ref (e_xb + 0)), some (.int (nI k9)), some (.int (nI a9)), some (.int (nI b9)), some (.int (nI c9)), some (.int (I f_isTutti 0)), x7, x8]) (st' := [.ref ax]) dL_acts_756 rfl ?_
    refine t_callS (K := K_L_acts) (As := [.ref ax]) (rest := []) dL_acts_757 rfl rM_L_isStep (by decide) rfl rfl (by decide) (Nat.le_of_ble_eq_true rfl) (c_isStep (d := d) (by omega) (by omega) h1 (fun p2 c2 A2 JA2 e2 h2 => ?_))
    show s_w _ _ _ 760 _ _ _ _
    refine w_ifeq (K := K_L_acts) (t := 787) dL_acts_760 (by decide) (fun c760 => ?_) (fun c760 => ?_)
    · exact absurd c760 (by decide)
    · refine w_op (K := K_L_acts) (pc' := 764) (ll' := [some (.ref ax), some (.ref (e_xb + 0)), some (.int (nI k9)), some (.int (nI a9)), some (.int (nI b9)), some (.int (nI c9)), some (.int (I f_isTutti 0)), x7, x8]) (st' := [.ref ax]) dL_acts_763 rfl ?_
      refine w_op (K := K_L_acts) (pc' := 766) (ll' := [some (.ref ax), some (.ref (e_xb + 0)), some (.int (nI k9)), some (.int (nI a9)), some (.int (nI b9)), some (.int (nI c9)), some (.int (I f_isTutti 0)), x7, x8]) (st' := [.int (I f_isTutti 0), .ref ax]) dL_acts_764 rfl ?_
      refine l_callH (K := K_L_acts) (As := [.int (I f_isTutti 0)]) (rest := []) dL_acts_766 rfl rM_X11_tutti (by decide) rfl rfl (by decide) rfl (Nat.le_of_ble_eq_true rfl) h2.hf (g_tutti (by omega) (by omega) h2 (h.bo rfl 0) (fun p3 c3 h3 => ?_))
      show s_w _ _ _ 769 _ _ _ _
      refine w_op (K := K_L_acts) (pc' := 770) (ll' := [some (.ref ax), some (.ref (e_xb + 0)), some (.int (nI k9)), some (.int (nI a9)), some (.int (nI b9)), some (.int (nI c9)), some (.int (I f_isTutti 0)), x7, x8]) (st' := [.int (nI a9), .int (A2 f_isTutti 0)]) dL_acts_769 rfl ?_
      refine w_bipush (K := K_L_acts) (v := 20) dL_acts_770 rfl ?_
      refine w_icmple (K := K_L_acts) (t := 779) dL_acts_772 (by decide) (fun c772 => ?_) (fun c772 => ?_)
      · exact absurd c772 c743
      · refine w_iconst (K := K_L_acts) (v := 1) dL_acts_775 rfl ?_
        refine w_goto (K := K_L_acts) (t := 780) dL_acts_776 (by decide) ?_
        refine w_icmpne (K := K_L_acts) (t := 787) dL_acts_780 (by decide) (fun c780 => ?_) (fun c780 => ?_)
        · exact absurd (by rw [e2, z_stlF (by decide), s_up_s]) c780
        · refine w_iconst (K := K_L_acts) (v := 1) dL_acts_783 rfl ?_
          refine w_goto (K := K_L_acts) (t := 788) dL_acts_784 (by decide) ?_
          refine w_ireturn (K := K_L_acts) dL_acts_788 ?_
          exact ⟨rfl, kk _ _ _ _ (h3.to (by omega) (by omega) (by omega))⟩

