/-! 99999999999999994: the law, calls 40 to 57 (printed by wip/whole/mkcases.py) -/
set_option maxHeartbeats 800000 in
theorem law_c40 {X : e_XT} {d T i ax am ao ad : Nat} {a6 a7 a8 : Option Value} {S : e_SS} {Q : e_Rt → e_SS → Prop} (hX : (X 8).1 = 0) (hXX : v_X X) (hi : i + 8 ≤ (X 0).1) (hL : (X 0).1 ≤ 4096) (hT : T < 512) (h : h_L T ax am ao ad S) (k : ∀ S2 a6 a7 a8, h_L (T + 1) ax am ao ad S2 → s_w X (d + 13) K_law 4021 (l_ll ax am ao ad i a6 a7 a8) [] S2 Q) : s_w X (d + 13) K_law 2996 (l_ll ax am ao ad i a6 a7 a8) [] S Q := by
  have h0 := h.f (Nat.le_of_lt hT)
  have hc := h0.1.2.2
  obtain ⟨p, I, J, c, w⟩ := S
  refine w_op (K := K_law) (pc' := 2997) (ll' := (l_ll ax am ao ad i a6 a7 a8)) (st' := [.ref ax]) dL_law_2996 rfl ?_
  refine l_arg1 (pc := 2997) (n := 1) dL_law_2997 dL_law_2998 dL_law_3000 dL_law_3001 dL_law_3002 (by decide) (by omega) hL hc ?_
  refine l_arg1 (pc := 3003) (n := 2) dL_law_3003 dL_law_3004 dL_law_3006 dL_law_3007 dL_law_3008 (by decide) (by omega) hL hc ?_
  refine w_op (K := K_law) (pc' := 3010) (ll' := (l_ll ax am ao ad i a6 a7 a8)) (st' := [.ref ao, .int ((X 0).2 (i + 2)), .int ((X 0).2 (i + 1)), .ref ax]) dL_law_3009 rfl ?_
  refine t_callS (K := K_law) (As := [.ref ax, .int ((X 0).2 (i + 1)), .int ((X 0).2 (i + 2)), .ref ao]) (rest := []) dL_law_3010 rfl rM_L_push (by decide) rfl rfl (by decide) (Nat.le_of_ble_eq_true rfl) (lp_push (d := d) (hX := hX) (hT := hT)  (h := h) (k := fun k' S1 hB => ?_))
  show s_w X (d + 13) K_law 3013 (l_ll ax am ao ad i a6 a7 a8) [.int k'] S1 Q
  refine l_is6 (pc := 3013) dL_law_3013 ?_
  have hf := (hB (fun _ _ => True) (fun _ _ _ _ _ => trivial)).1
  refine w_op (K := K_law) (pc' := 3016) (ll' := (l_ll ax am ao ad i (some (.int k')) a7 a8)) (st' := [.ref am]) dL_law_3015 rfl ?_
  refine l_arg1 (pc := 3016) (n := 1) dL_law_3016 dL_law_3017 dL_law_3019 dL_law_3020 dL_law_3021 (by decide) (by omega) hL hf.2.2 ?_
  refine l_arg1 (pc := 3022) (n := 2) dL_law_3022 dL_law_3023 dL_law_3025 dL_law_3026 dL_law_3027 (by decide) (by omega) hL hf.2.2 ?_
  refine l_callM (As := [.int ((X 0).2 (i + 1)), .int ((X 0).2 (i + 2))]) (rest := []) dL_law_3028 rfl rM_X16_push (by decide) rfl rfl (by decide) rfl (Nat.le_of_ble_eq_true rfl) hf ((hB _ (fun b S2 h2 ht hb => ?_)).2)
  show s_w X (d + 13) K_law 3031 (l_ll ax am ao ad i (some (.int k')) a7 a8) [.int b] S2 Q
  exact law_tI (pc := 3031) dL_law_3031 dL_law_3033 dL_law_3034 dL_law_3037 dL_law_3039 dL_law_3044 dL_law_3046 dL_law_3049 dL_law_3050 dL_law_3051 dL_law_3052 dL_law_3054 dL_law_3055 dL_law_3056 dL_law_3061 (by decide) hT h2 ht hb (fun a6 a7 a8 => k S2 a6 a7 a8 h2)
set_option maxHeartbeats 800000 in
theorem law_c41 {X : e_XT} {d T i ax am ao ad : Nat} {a6 a7 a8 : Option Value} {S : e_SS} {Q : e_Rt → e_SS → Prop} (hX : (X 8).1 = 0) (hXX : v_X X) (hi : i + 8 ≤ (X 0).1) (hL : (X 0).1 ≤ 4096) (hT : T < 512) (h : h_L T ax am ao ad S) (k : ∀ S2 a6 a7 a8, h_L (T + 1) ax am ao ad S2 → s_w X (d + 13) K_law 4021 (l_ll ax am ao ad i a6 a7 a8) [] S2 Q) : s_w X (d + 13) K_law 3064 (l_ll ax am ao ad i a6 a7 a8) [] S Q := by
  have h0 := h.f (Nat.le_of_lt hT)
  have hc := h0.1.2.2
  obtain ⟨p, I, J, c, w⟩ := S
  refine w_op (K := K_law) (pc' := 3065) (ll' := (l_ll ax am ao ad i a6 a7 a8)) (st' := [.ref ax]) dL_law_3064 rfl ?_
  refine l_arg1 (pc := 3065) (n := 1) dL_law_3065 dL_law_3066 dL_law_3068 dL_law_3069 dL_law_3070 (by decide) (by omega) hL hc ?_
  refine l_arg1 (pc := 3071) (n := 2) dL_law_3071 dL_law_3072 dL_law_3074 dL_law_3075 dL_law_3076 (by decide) (by omega) hL hc ?_
  refine w_op (K := K_law) (pc' := 3078) (ll' := (l_ll ax am ao ad i a6 a7 a8)) (st' := [.ref ao, .int ((X 0).2 (i + 2)), .int ((X 0).2 (i + 1)), .ref ax]) dL_law_3077 rfl ?_
  refine t_callS (K := K_law) (As := [.ref ax, .int ((X 0).2 (i + 1)), .int ((X 0).2 (i + 2)), .ref ao]) (rest := []) dL_law_3078 rfl rM_L_setReversible (by decide) rfl rfl (by decide) (Nat.le_of_ble_eq_true rfl) (lp_setReversible (d := d) (hX := hX) (hT := hT)  (h := h) (k := fun k' S1 hB => ?_))
  show s_w X (d + 13) K_law 3081 (l_ll ax am ao ad i a6 a7 a8) [.int k'] S1 Q
  refine l_is6 (pc := 3081) dL_law_3081 ?_
  have hf := (hB (fun _ _ => True) (fun _ _ _ _ _ => trivial)).1
  refine w_op (K := K_law) (pc' := 3084) (ll' := (l_ll ax am ao ad i (some (.int k')) a7 a8)) (st' := [.ref am]) dL_law_3083 rfl ?_
  refine l_arg1 (pc := 3084) (n := 1) dL_law_3084 dL_law_3085 dL_law_3087 dL_law_3088 dL_law_3089 (by decide) (by omega) hL hf.2.2 ?_
  refine l_arg1 (pc := 3090) (n := 2) dL_law_3090 dL_law_3091 dL_law_3093 dL_law_3094 dL_law_3095 (by decide) (by omega) hL hf.2.2 ?_
  refine l_callM (As := [.int ((X 0).2 (i + 1)), .int ((X 0).2 (i + 2))]) (rest := []) dL_law_3096 rfl rM_X16_setReversible (by decide) rfl rfl (by decide) rfl (Nat.le_of_ble_eq_true rfl) hf ((hB _ (fun b S2 h2 ht hb => ?_)).2)
  show s_w X (d + 13) K_law 3099 (l_ll ax am ao ad i (some (.int k')) a7 a8) [.int b] S2 Q
  exact law_tI (pc := 3099) dL_law_3099 dL_law_3101 dL_law_3102 dL_law_3105 dL_law_3107 dL_law_3112 dL_law_3114 dL_law_3117 dL_law_3118 dL_law_3119 dL_law_3120 dL_law_3122 dL_law_3123 dL_law_3124 dL_law_3129 (by decide) hT h2 ht hb (fun a6 a7 a8 => k S2 a6 a7 a8 h2)
set_option maxHeartbeats 800000 in
theorem law_c42 {X : e_XT} {d T i ax am ao ad : Nat} {a6 a7 a8 : Option Value} {S : e_SS} {Q : e_Rt → e_SS → Prop} (hX : (X 8).1 = 0) (hXX : v_X X) (hi : i + 8 ≤ (X 0).1) (hL : (X 0).1 ≤ 4096) (hT : T < 512) (h : h_L T ax am ao ad S) (k : ∀ S2 a6 a7 a8, h_L (T + 1) ax am ao ad S2 → s_w X (d + 13) K_law 4021 (l_ll ax am ao ad i a6 a7 a8) [] S2 Q) : s_w X (d + 13) K_law 3132 (l_ll ax am ao ad i a6 a7 a8) [] S Q := by
  have h0 := h.f (Nat.le_of_lt hT)
  have hc := h0.1.2.2
  obtain ⟨p, I, J, c, w⟩ := S
  refine w_op (K := K_law) (pc' := 3133) (ll' := (l_ll ax am ao ad i a6 a7 a8)) (st' := [.ref ax]) dL_law_3132 rfl ?_
  refine l_arg1 (pc := 3133) (n := 1) dL_law_3133 dL_law_3134 dL_law_3136 dL_law_3137 dL_law_3138 (by decide) (by omega) hL hc ?_
  refine w_op (K := K_law) (pc' := 3140) (ll' := (l_ll ax am ao ad i a6 a7 a8)) (st' := [.ref ao, .int ((X 0).2 (i + 1)), .ref ax]) dL_law_3139 rfl ?_
  refine t_callS (K := K_law) (As := [.ref ax, .int ((X 0).2 (i + 1)), .ref ao]) (rest := []) dL_law_3140 rfl rM_L_pushReversible (by decide) rfl rfl (by decide) (Nat.le_of_ble_eq_true rfl) (lp_pushReversible (d := d) (hX := hX) (hT := hT)  (h := h) (k := fun k' S1 hB => ?_))
  show s_w X (d + 13) K_law 3143 (l_ll ax am ao ad i a6 a7 a8) [.int k'] S1 Q
  refine l_is6 (pc := 3143) dL_law_3143 ?_
  have hf := (hB (fun _ _ => True) (fun _ _ _ _ _ => trivial)).1
  refine w_op (K := K_law) (pc' := 3146) (ll' := (l_ll ax am ao ad i (some (.int k')) a7 a8)) (st' := [.ref am]) dL_law_3145 rfl ?_
  refine l_arg1 (pc := 3146) (n := 1) dL_law_3146 dL_law_3147 dL_law_3149 dL_law_3150 dL_law_3151 (by decide) (by omega) hL hf.2.2 ?_
  refine l_callM (As := [.int ((X 0).2 (i + 1))]) (rest := []) dL_law_3152 rfl rM_X16_pushReversible (by decide) rfl rfl (by decide) rfl (Nat.le_of_ble_eq_true rfl) hf ((hB _ (fun b S2 h2 ht hb => ?_)).2)
  show s_w X (d + 13) K_law 3155 (l_ll ax am ao ad i (some (.int k')) a7 a8) [.int b] S2 Q
  exact law_tB (pc := 3155) dL_law_3155 dL_law_3157 dL_law_3158 dL_law_3161 dL_law_3163 dL_law_3168 dL_law_3170 dL_law_3173 dL_law_3174 dL_law_3175 dL_law_3176 dL_law_3178 dL_law_3181 dL_law_3182 dL_law_3185 dL_law_3186 dL_law_3187 dL_law_3192 (by decide) hT h2 ht hb (fun a6 a7 a8 => k S2 a6 a7 a8 h2)
set_option maxHeartbeats 800000 in
theorem law_c43 {X : e_XT} {d T i ax am ao ad : Nat} {a6 a7 a8 : Option Value} {S : e_SS} {Q : e_Rt → e_SS → Prop} (hX : (X 8).1 = 0) (hXX : v_X X) (hi : i + 8 ≤ (X 0).1) (hL : (X 0).1 ≤ 4096) (hT : T < 512) (h : h_L T ax am ao ad S) (k : ∀ S2 a6 a7 a8, h_L (T + 1) ax am ao ad S2 → s_w X (d + 13) K_law 4021 (l_ll ax am ao ad i a6 a7 a8) [] S2 Q) : s_w X (d + 13) K_law 3195 (l_ll ax am ao ad i a6 a7 a8) [] S Q := by
  have h0 := h.f (Nat.le_of_lt hT)
  have hc := h0.1.2.2
  obtain ⟨p, I, J, c, w⟩ := S
  refine w_op (K := K_law) (pc' := 3196) (ll' := (l_ll ax am ao ad i a6 a7 a8)) (st' := [.ref ax]) dL_law_3195 rfl ?_
  refine l_callH (As := []) (rest := []) dL_law_3196 rfl rM_X11_step (by decide) rfl rfl (by decide) rfl (Nat.le_of_ble_eq_true rfl) h0.2.1 (lp_step (d := d) (hX := hX) (hT := hT)  (h := h) (k := fun v S1 hB => ?_))
  show s_w X (d + 13) K_law 3199 (l_ll ax am ao ad i a6 a7 a8) [.int v] S1 Q
  have hf := (hB (fun _ _ => True) (fun _ _ => trivial)).1
  refine w_op (K := K_law) (pc' := 3200) (ll' := (l_ll ax am ao ad i a6 a7 a8)) (st' := [.ref am, .int v]) dL_law_3199 rfl ?_
  refine l_callM (As := []) (rest := [.int v]) dL_law_3200 rfl rM_X16_step (by decide) rfl rfl (by decide) rfl (Nat.le_of_ble_eq_true rfl) hf ((hB _ (fun S2 h2 => ?_)).2)
  show s_w X (d + 13) K_law 3203 (l_ll ax am ao ad i a6 a7 a8) [.int v, .int v] S2 Q
  exact w_icmpeq (K := K_law) (t := 4021) dL_law_3203 (by decide) (fun _ => k S2 a6 a7 a8 h2) (fun z => absurd rfl z)
set_option maxHeartbeats 800000 in
theorem law_c44 {X : e_XT} {d T i ax am ao ad : Nat} {a6 a7 a8 : Option Value} {S : e_SS} {Q : e_Rt → e_SS → Prop} (hX : (X 8).1 = 0) (hXX : v_X X) (hi : i + 8 ≤ (X 0).1) (hL : (X 0).1 ≤ 4096) (hT : T < 512) (h : h_L T ax am ao ad S) (k : ∀ S2 a6 a7 a8, h_L (T + 1) ax am ao ad S2 → s_w X (d + 13) K_law 4021 (l_ll ax am ao ad i a6 a7 a8) [] S2 Q) : s_w X (d + 13) K_law 3208 (l_ll ax am ao ad i a6 a7 a8) [] S Q := by
  have h0 := h.f (Nat.le_of_lt hT)
  have hc := h0.1.2.2
  obtain ⟨p, I, J, c, w⟩ := S
  refine w_op (K := K_law) (pc' := 3209) (ll' := (l_ll ax am ao ad i a6 a7 a8)) (st' := [.ref ax]) dL_law_3208 rfl ?_
  refine l_arg1 (pc := 3209) (n := 1) dL_law_3209 dL_law_3210 dL_law_3212 dL_law_3213 dL_law_3214 (by decide) (by omega) hL hc ?_
  refine w_op (K := K_law) (pc' := 3216) (ll' := (l_ll ax am ao ad i a6 a7 a8)) (st' := [.ref ao, .int ((X 0).2 (i + 1)), .ref ax]) dL_law_3215 rfl ?_
  refine t_callS (K := K_law) (As := [.ref ax, .int ((X 0).2 (i + 1)), .ref ao]) (rest := []) dL_law_3216 rfl rM_L_frame (by decide) rfl rfl (by decide) (Nat.le_of_ble_eq_true rfl) (lp_frame (d := d) (hX := hX) (hT := hT)  (h := h) (k := fun k' S1 hB => ?_))
  show s_w X (d + 13) K_law 3219 (l_ll ax am ao ad i a6 a7 a8) [.int k'] S1 Q
  refine l_is6 (pc := 3219) dL_law_3219 ?_
  have hf := (hB (fun _ _ => True) (fun _ _ _ _ _ => trivial)).1
  refine w_op (K := K_law) (pc' := 3222) (ll' := (l_ll ax am ao ad i (some (.int k')) a7 a8)) (st' := [.ref am]) dL_law_3221 rfl ?_
  refine l_arg1 (pc := 3222) (n := 1) dL_law_3222 dL_law_3223 dL_law_3225 dL_law_3226 dL_law_3227 (by decide) (by omega) hL hf.2.2 ?_
  refine l_callM (As := [.int ((X 0).2 (i + 1))]) (rest := []) dL_law_3228 rfl rM_X16_frame (by decide) rfl rfl (by decide) rfl (Nat.le_of_ble_eq_true rfl) hf ((hB _ (fun b S2 h2 ht hb => ?_)).2)
  show s_w X (d + 13) K_law 3231 (l_ll ax am ao ad i (some (.int k')) a7 a8) [.int b] S2 Q
  exact law_tI (pc := 3231) dL_law_3231 dL_law_3233 dL_law_3234 dL_law_3237 dL_law_3239 dL_law_3244 dL_law_3246 dL_law_3249 dL_law_3250 dL_law_3251 dL_law_3252 dL_law_3254 dL_law_3255 dL_law_3256 dL_law_3261 (by decide) hT h2 ht hb (fun a6 a7 a8 => k S2 a6 a7 a8 h2)
set_option maxHeartbeats 800000 in
theorem law_c45 {X : e_XT} {d T i ax am ao ad : Nat} {a6 a7 a8 : Option Value} {S : e_SS} {Q : e_Rt → e_SS → Prop} (hX : (X 8).1 = 0) (hXX : v_X X) (hi : i + 8 ≤ (X 0).1) (hL : (X 0).1 ≤ 4096) (hT : T < 512) (h : h_L T ax am ao ad S) (k : ∀ S2 a6 a7 a8, h_L (T + 1) ax am ao ad S2 → s_w X (d + 13) K_law 4021 (l_ll ax am ao ad i a6 a7 a8) [] S2 Q) : s_w X (d + 13) K_law 3264 (l_ll ax am ao ad i a6 a7 a8) [] S Q := by
  have h0 := h.f (Nat.le_of_lt hT)
  have hc := h0.1.2.2
  obtain ⟨p, I, J, c, w⟩ := S
  refine w_op (K := K_law) (pc' := 3265) (ll' := (l_ll ax am ao ad i a6 a7 a8)) (st' := [.ref ax]) dL_law_3264 rfl ?_
  refine l_arg1 (pc := 3265) (n := 1) dL_law_3265 dL_law_3266 dL_law_3268 dL_law_3269 dL_law_3270 (by decide) (by omega) hL hc ?_
  refine w_op (K := K_law) (pc' := 3272) (ll' := (l_ll ax am ao ad i a6 a7 a8)) (st' := [.ref ao, .int ((X 0).2 (i + 1)), .ref ax]) dL_law_3271 rfl ?_
  refine t_callS (K := K_law) (As := [.ref ax, .int ((X 0).2 (i + 1)), .ref ao]) (rest := []) dL_law_3272 rfl rM_L_cut (by decide) rfl rfl (by decide) (Nat.le_of_ble_eq_true rfl) (lp_cut (d := d) (hX := hX) (hT := hT)  (h := h) (k := fun k' S1 hB => ?_))
  show s_w X (d + 13) K_law 3275 (l_ll ax am ao ad i a6 a7 a8) [.int k'] S1 Q
  refine l_is6 (pc := 3275) dL_law_3275 ?_
  have hf := (hB (fun _ _ => True) (fun _ _ _ _ _ => trivial)).1
  refine w_op (K := K_law) (pc' := 3278) (ll' := (l_ll ax am ao ad i (some (.int k')) a7 a8)) (st' := [.ref am]) dL_law_3277 rfl ?_
  refine l_arg1 (pc := 3278) (n := 1) dL_law_3278 dL_law_3279 dL_law_3281 dL_law_3282 dL_law_3283 (by decide) (by omega) hL hf.2.2 ?_
  refine l_callM (As := [.int ((X 0).2 (i + 1))]) (rest := []) dL_law_3284 rfl rM_X16_cut (by decide) rfl rfl (by decide) rfl (Nat.le_of_ble_eq_true rfl) hf ((hB _ (fun b S2 h2 ht hb => ?_)).2)
  show s_w X (d + 13) K_law 3287 (l_ll ax am ao ad i (some (.int k')) a7 a8) [.int b] S2 Q
  exact law_tI (pc := 3287) dL_law_3287 dL_law_3289 dL_law_3290 dL_law_3293 dL_law_3295 dL_law_3300 dL_law_3302 dL_law_3305 dL_law_3306 dL_law_3307 dL_law_3308 dL_law_3310 dL_law_3311 dL_law_3312 dL_law_3317 (by decide) hT h2 ht hb (fun a6 a7 a8 => k S2 a6 a7 a8 h2)
set_option maxHeartbeats 800000 in
theorem law_c46 {X : e_XT} {d T i ax am ao ad : Nat} {a6 a7 a8 : Option Value} {S : e_SS} {Q : e_Rt → e_SS → Prop} (hX : (X 8).1 = 0) (hXX : v_X X) (hi : i + 8 ≤ (X 0).1) (hL : (X 0).1 ≤ 4096) (hT : T < 512) (h : h_L T ax am ao ad S) (k : ∀ S2 a6 a7 a8, h_L (T + 1) ax am ao ad S2 → s_w X (d + 13) K_law 4021 (l_ll ax am ao ad i a6 a7 a8) [] S2 Q) : s_w X (d + 13) K_law 3320 (l_ll ax am ao ad i a6 a7 a8) [] S Q := by
  have h0 := h.f (Nat.le_of_lt hT)
  have hc := h0.1.2.2
  obtain ⟨p, I, J, c, w⟩ := S
  refine w_op (K := K_law) (pc' := 3321) (ll' := (l_ll ax am ao ad i a6 a7 a8)) (st' := [.ref ax]) dL_law_3320 rfl ?_
  refine l_arg1 (pc := 3321) (n := 1) dL_law_3321 dL_law_3322 dL_law_3324 dL_law_3325 dL_law_3326 (by decide) (by omega) hL hc ?_
  refine w_op (K := K_law) (pc' := 3328) (ll' := (l_ll ax am ao ad i a6 a7 a8)) (st' := [.ref ao, .int ((X 0).2 (i + 1)), .ref ax]) dL_law_3327 rfl ?_
  refine t_callS (K := K_law) (As := [.ref ax, .int ((X 0).2 (i + 1)), .ref ao]) (rest := []) dL_law_3328 rfl rM_L_turnTo (by decide) rfl rfl (by decide) (Nat.le_of_ble_eq_true rfl) (lp_turnTo (d := d) (hX := hX) (hT := hT)  (h := h) (k := fun k' S1 hB => ?_))
  show s_w X (d + 13) K_law 3331 (l_ll ax am ao ad i a6 a7 a8) [.int k'] S1 Q
  refine l_is6 (pc := 3331) dL_law_3331 ?_
  have hf := (hB (fun _ _ => True) (fun _ _ _ _ _ => trivial)).1
  refine w_op (K := K_law) (pc' := 3334) (ll' := (l_ll ax am ao ad i (some (.int k')) a7 a8)) (st' := [.ref am]) dL_law_3333 rfl ?_
  refine l_arg1 (pc := 3334) (n := 1) dL_law_3334 dL_law_3335 dL_law_3337 dL_law_3338 dL_law_3339 (by decide) (by omega) hL hf.2.2 ?_
  refine l_callM (As := [.int ((X 0).2 (i + 1))]) (rest := []) dL_law_3340 rfl rM_X16_turnTo (by decide) rfl rfl (by decide) rfl (Nat.le_of_ble_eq_true rfl) hf ((hB _ (fun b S2 h2 ht hb => ?_)).2)
  show s_w X (d + 13) K_law 3343 (l_ll ax am ao ad i (some (.int k')) a7 a8) [.int b] S2 Q
  exact law_tI (pc := 3343) dL_law_3343 dL_law_3345 dL_law_3346 dL_law_3349 dL_law_3351 dL_law_3356 dL_law_3358 dL_law_3361 dL_law_3362 dL_law_3363 dL_law_3364 dL_law_3366 dL_law_3367 dL_law_3368 dL_law_3373 (by decide) hT h2 ht hb (fun a6 a7 a8 => k S2 a6 a7 a8 h2)
set_option maxHeartbeats 800000 in
theorem law_c47 {X : e_XT} {d T i ax am ao ad : Nat} {a6 a7 a8 : Option Value} {S : e_SS} {Q : e_Rt → e_SS → Prop} (hX : (X 8).1 = 0) (hXX : v_X X) (hi : i + 8 ≤ (X 0).1) (hL : (X 0).1 ≤ 4096) (hT : T < 512) (h : h_L T ax am ao ad S) (k : ∀ S2 a6 a7 a8, h_L (T + 1) ax am ao ad S2 → s_w X (d + 13) K_law 4021 (l_ll ax am ao ad i a6 a7 a8) [] S2 Q) : s_w X (d + 13) K_law 3376 (l_ll ax am ao ad i a6 a7 a8) [] S Q := by
  have h0 := h.f (Nat.le_of_lt hT)
  have hc := h0.1.2.2
  obtain ⟨p, I, J, c, w⟩ := S
  refine w_op (K := K_law) (pc' := 3377) (ll' := (l_ll ax am ao ad i a6 a7 a8)) (st' := [.ref ax]) dL_law_3376 rfl ?_
  refine l_arg1 (pc := 3377) (n := 1) dL_law_3377 dL_law_3378 dL_law_3380 dL_law_3381 dL_law_3382 (by decide) (by omega) hL hc ?_
  refine l_arg1 (pc := 3383) (n := 2) dL_law_3383 dL_law_3384 dL_law_3386 dL_law_3387 dL_law_3388 (by decide) (by omega) hL hc ?_
  refine l_i2c (pc := 3389) dL_law_3389 ?_
  refine l_arg1 (pc := 3390) (n := 3) dL_law_3390 dL_law_3391 dL_law_3393 dL_law_3394 dL_law_3395 (by decide) (by omega) hL hc ?_
  refine l_arg1 (pc := 3396) (n := 4) dL_law_3396 dL_law_3397 dL_law_3399 dL_law_3400 dL_law_3401 (by decide) (by omega) hL hc ?_
  refine w_op (K := K_law) (pc' := 3403) (ll' := (l_ll ax am ao ad i a6 a7 a8)) (st' := [.ref ao, .int ((X 0).2 (i + 4)), .int ((X 0).2 (i + 3)), .int (l_ch ((X 0).2 (i + 2))), .int ((X 0).2 (i + 1)), .ref ax]) dL_law_3402 rfl ?_
  refine t_callS (K := K_law) (As := [.ref ax, .int ((X 0).2 (i + 1)), .int (l_ch ((X 0).2 (i + 2))), .int ((X 0).2 (i + 3)), .int ((X 0).2 (i + 4)), .ref ao]) (rest := []) dL_law_3403 rfl rM_L_wire (by decide) rfl rfl (by decide) (Nat.le_of_ble_eq_true rfl) (lp_wire (d := d) (hX := hX) (hT := hT) (hch := l_chn) (h := h) (k := fun k' S1 hB => ?_))
  show s_w X (d + 13) K_law 3406 (l_ll ax am ao ad i a6 a7 a8) [.int k'] S1 Q
  refine l_is6 (pc := 3406) dL_law_3406 ?_
  have hf := (hB (fun _ _ => True) (fun _ _ _ _ _ => trivial)).1
  refine w_op (K := K_law) (pc' := 3409) (ll' := (l_ll ax am ao ad i (some (.int k')) a7 a8)) (st' := [.ref am]) dL_law_3408 rfl ?_
  refine l_arg1 (pc := 3409) (n := 1) dL_law_3409 dL_law_3410 dL_law_3412 dL_law_3413 dL_law_3414 (by decide) (by omega) hL hf.2.2 ?_
  refine l_arg1 (pc := 3415) (n := 2) dL_law_3415 dL_law_3416 dL_law_3418 dL_law_3419 dL_law_3420 (by decide) (by omega) hL hf.2.2 ?_
  refine l_i2c (pc := 3421) dL_law_3421 ?_
  refine l_arg1 (pc := 3422) (n := 3) dL_law_3422 dL_law_3423 dL_law_3425 dL_law_3426 dL_law_3427 (by decide) (by omega) hL hf.2.2 ?_
  refine l_arg1 (pc := 3428) (n := 4) dL_law_3428 dL_law_3429 dL_law_3431 dL_law_3432 dL_law_3433 (by decide) (by omega) hL hf.2.2 ?_
  refine l_callM (As := [.int ((X 0).2 (i + 1)), .int (l_ch ((X 0).2 (i + 2))), .int ((X 0).2 (i + 3)), .int ((X 0).2 (i + 4))]) (rest := []) dL_law_3434 rfl rM_X16_wire (by decide) rfl rfl (by decide) rfl (Nat.le_of_ble_eq_true rfl) hf ((hB _ (fun b S2 h2 ht hb => ?_)).2)
  show s_w X (d + 13) K_law 3437 (l_ll ax am ao ad i (some (.int k')) a7 a8) [.int b] S2 Q
  exact law_tB (pc := 3437) dL_law_3437 dL_law_3439 dL_law_3440 dL_law_3443 dL_law_3445 dL_law_3450 dL_law_3452 dL_law_3455 dL_law_3456 dL_law_3457 dL_law_3458 dL_law_3460 dL_law_3463 dL_law_3464 dL_law_3467 dL_law_3468 dL_law_3469 dL_law_3474 (by decide) hT h2 ht hb (fun a6 a7 a8 => k S2 a6 a7 a8 h2)
set_option maxHeartbeats 800000 in
theorem law_c48 {X : e_XT} {d T i ax am ao ad : Nat} {a6 a7 a8 : Option Value} {S : e_SS} {Q : e_Rt → e_SS → Prop} (hX : (X 8).1 = 0) (hXX : v_X X) (hi : i + 8 ≤ (X 0).1) (hL : (X 0).1 ≤ 4096) (hT : T < 512) (h : h_L T ax am ao ad S) (k : ∀ S2 a6 a7 a8, h_L (T + 1) ax am ao ad S2 → s_w X (d + 13) K_law 4021 (l_ll ax am ao ad i a6 a7 a8) [] S2 Q) : s_w X (d + 13) K_law 3477 (l_ll ax am ao ad i a6 a7 a8) [] S Q := by
  have h0 := h.f (Nat.le_of_lt hT)
  have hc := h0.1.2.2
  obtain ⟨p, I, J, c, w⟩ := S
  refine w_op (K := K_law) (pc' := 3478) (ll' := (l_ll ax am ao ad i a6 a7 a8)) (st' := [.ref ax]) dL_law_3477 rfl ?_
  refine l_arg1 (pc := 3478) (n := 1) dL_law_3478 dL_law_3479 dL_law_3481 dL_law_3482 dL_law_3483 (by decide) (by omega) hL hc ?_
  refine w_op (K := K_law) (pc' := 3485) (ll' := (l_ll ax am ao ad i a6 a7 a8)) (st' := [.ref ao, .int ((X 0).2 (i + 1)), .ref ax]) dL_law_3484 rfl ?_
  refine t_callS (K := K_law) (As := [.ref ax, .int ((X 0).2 (i + 1)), .ref ao]) (rest := []) dL_law_3485 rfl rM_L_isOnRelay (by decide) rfl rfl (by decide) (Nat.le_of_ble_eq_true rfl) (lp_isOnRelay (d := d) (hX := hX) (hT := hT)  (h := h) (k := fun k' S1 hB => ?_))
  show s_w X (d + 13) K_law 3488 (l_ll ax am ao ad i a6 a7 a8) [.int k'] S1 Q
  refine l_is6 (pc := 3488) dL_law_3488 ?_
  have hf := (hB (fun _ _ => True) (fun _ _ _ _ _ => trivial)).1
  refine w_op (K := K_law) (pc' := 3491) (ll' := (l_ll ax am ao ad i (some (.int k')) a7 a8)) (st' := [.ref am]) dL_law_3490 rfl ?_
  refine l_arg1 (pc := 3491) (n := 1) dL_law_3491 dL_law_3492 dL_law_3494 dL_law_3495 dL_law_3496 (by decide) (by omega) hL hf.2.2 ?_
  refine l_callM (As := [.int ((X 0).2 (i + 1))]) (rest := []) dL_law_3497 rfl rM_X16_isOnRelay (by decide) rfl rfl (by decide) rfl (Nat.le_of_ble_eq_true rfl) hf ((hB _ (fun b S2 h2 ht hb => ?_)).2)
  show s_w X (d + 13) K_law 3500 (l_ll ax am ao ad i (some (.int k')) a7 a8) [.int b] S2 Q
  exact law_tB (pc := 3500) dL_law_3500 dL_law_3502 dL_law_3503 dL_law_3506 dL_law_3508 dL_law_3513 dL_law_3515 dL_law_3518 dL_law_3519 dL_law_3520 dL_law_3521 dL_law_3523 dL_law_3526 dL_law_3527 dL_law_3530 dL_law_3531 dL_law_3532 dL_law_3537 (by decide) hT h2 ht hb (fun a6 a7 a8 => k S2 a6 a7 a8 h2)
set_option maxHeartbeats 800000 in
theorem law_c49 {X : e_XT} {d T i ax am ao ad : Nat} {a6 a7 a8 : Option Value} {S : e_SS} {Q : e_Rt → e_SS → Prop} (hX : (X 8).1 = 0) (hXX : v_X X) (hi : i + 8 ≤ (X 0).1) (hL : (X 0).1 ≤ 4096) (hT : T < 512) (h : h_L T ax am ao ad S) (k : ∀ S2 a6 a7 a8, h_L (T + 1) ax am ao ad S2 → s_w X (d + 13) K_law 4021 (l_ll ax am ao ad i a6 a7 a8) [] S2 Q) : s_w X (d + 13) K_law 3540 (l_ll ax am ao ad i a6 a7 a8) [] S Q := by
  have h0 := h.f (Nat.le_of_lt hT)
  have hc := h0.1.2.2
  obtain ⟨p, I, J, c, w⟩ := S
  refine w_op (K := K_law) (pc' := 3541) (ll' := (l_ll ax am ao ad i a6 a7 a8)) (st' := [.ref ax]) dL_law_3540 rfl ?_
  refine l_arg1 (pc := 3541) (n := 1) dL_law_3541 dL_law_3542 dL_law_3544 dL_law_3545 dL_law_3546 (by decide) (by omega) hL hc ?_
  refine l_arg1 (pc := 3547) (n := 2) dL_law_3547 dL_law_3548 dL_law_3550 dL_law_3551 dL_law_3552 (by decide) (by omega) hL hc ?_
  refine w_op (K := K_law) (pc' := 3554) (ll' := (l_ll ax am ao ad i a6 a7 a8)) (st' := [.ref ao, .int ((X 0).2 (i + 2)), .int ((X 0).2 (i + 1)), .ref ax]) dL_law_3553 rfl ?_
  refine t_callS (K := K_law) (As := [.ref ax, .int ((X 0).2 (i + 1)), .int ((X 0).2 (i + 2)), .ref ao]) (rest := []) dL_law_3554 rfl rM_L_drive (by decide) rfl rfl (by decide) (Nat.le_of_ble_eq_true rfl) (lp_drive (d := d) (hX := hX) (hT := hT)  (h := h) (k := fun k' S1 hB => ?_))
  show s_w X (d + 13) K_law 3557 (l_ll ax am ao ad i a6 a7 a8) [.int k'] S1 Q
  refine l_is6 (pc := 3557) dL_law_3557 ?_
  have hf := (hB (fun _ _ => True) (fun _ _ _ _ _ => trivial)).1
  refine w_op (K := K_law) (pc' := 3560) (ll' := (l_ll ax am ao ad i (some (.int k')) a7 a8)) (st' := [.ref am]) dL_law_3559 rfl ?_
  refine l_arg1 (pc := 3560) (n := 1) dL_law_3560 dL_law_3561 dL_law_3563 dL_law_3564 dL_law_3565 (by decide) (by omega) hL hf.2.2 ?_
  refine l_arg1 (pc := 3566) (n := 2) dL_law_3566 dL_law_3567 dL_law_3569 dL_law_3570 dL_law_3571 (by decide) (by omega) hL hf.2.2 ?_
  refine l_callM (As := [.int ((X 0).2 (i + 1)), .int ((X 0).2 (i + 2))]) (rest := []) dL_law_3572 rfl rM_X16_drive (by decide) rfl rfl (by decide) rfl (Nat.le_of_ble_eq_true rfl) hf ((hB _ (fun b S2 h2 ht hb => ?_)).2)
  show s_w X (d + 13) K_law 3575 (l_ll ax am ao ad i (some (.int k')) a7 a8) [.int b] S2 Q
  exact law_tI (pc := 3575) dL_law_3575 dL_law_3577 dL_law_3578 dL_law_3581 dL_law_3583 dL_law_3588 dL_law_3590 dL_law_3593 dL_law_3594 dL_law_3595 dL_law_3596 dL_law_3598 dL_law_3599 dL_law_3600 dL_law_3605 (by decide) hT h2 ht hb (fun a6 a7 a8 => k S2 a6 a7 a8 h2)
set_option maxHeartbeats 800000 in
theorem law_c50 {X : e_XT} {d T i ax am ao ad : Nat} {a6 a7 a8 : Option Value} {S : e_SS} {Q : e_Rt → e_SS → Prop} (hX : (X 8).1 = 0) (hXX : v_X X) (hi : i + 8 ≤ (X 0).1) (hL : (X 0).1 ≤ 4096) (hT : T < 512) (h : h_L T ax am ao ad S) (k : ∀ S2 a6 a7 a8, h_L (T + 1) ax am ao ad S2 → s_w X (d + 13) K_law 4021 (l_ll ax am ao ad i a6 a7 a8) [] S2 Q) : s_w X (d + 13) K_law 3608 (l_ll ax am ao ad i a6 a7 a8) [] S Q := by
  have h0 := h.f (Nat.le_of_lt hT)
  have hc := h0.1.2.2
  obtain ⟨p, I, J, c, w⟩ := S
  refine w_op (K := K_law) (pc' := 3609) (ll' := (l_ll ax am ao ad i a6 a7 a8)) (st' := [.ref ax]) dL_law_3608 rfl ?_
  refine l_arg1 (pc := 3609) (n := 1) dL_law_3609 dL_law_3610 dL_law_3612 dL_law_3613 dL_law_3614 (by decide) (by omega) hL hc ?_
  refine l_i2c (pc := 3615) dL_law_3615 ?_
  refine w_op (K := K_law) (pc' := 3617) (ll' := (l_ll ax am ao ad i a6 a7 a8)) (st' := [.ref ao, .int (l_ch ((X 0).2 (i + 1))), .ref ax]) dL_law_3616 rfl ?_
  refine t_callS (K := K_law) (As := [.ref ax, .int (l_ch ((X 0).2 (i + 1))), .ref ao]) (rest := []) dL_law_3617 rfl rM_L_record (by decide) rfl rfl (by decide) (Nat.le_of_ble_eq_true rfl) (lp_record (d := d) (hX := hX) (hT := hT) (hx := l_chn) (h := h) (k := fun k' S1 hB => ?_))
  show s_w X (d + 13) K_law 3620 (l_ll ax am ao ad i a6 a7 a8) [.int k'] S1 Q
  refine l_is6 (pc := 3620) dL_law_3620 ?_
  have hf := (hB (fun _ _ => True) (fun _ _ _ _ _ => trivial)).1
  refine w_op (K := K_law) (pc' := 3623) (ll' := (l_ll ax am ao ad i (some (.int k')) a7 a8)) (st' := [.ref am]) dL_law_3622 rfl ?_
  refine l_arg1 (pc := 3623) (n := 1) dL_law_3623 dL_law_3624 dL_law_3626 dL_law_3627 dL_law_3628 (by decide) (by omega) hL hf.2.2 ?_
  refine l_i2c (pc := 3629) dL_law_3629 ?_
  refine l_callM (As := [.int (l_ch ((X 0).2 (i + 1)))]) (rest := []) dL_law_3630 rfl rM_X16_record (by decide) rfl rfl (by decide) rfl (Nat.le_of_ble_eq_true rfl) hf ((hB _ (fun b S2 h2 ht hb => ?_)).2)
  show s_w X (d + 13) K_law 3633 (l_ll ax am ao ad i (some (.int k')) a7 a8) [.int b] S2 Q
  exact law_tI (pc := 3633) dL_law_3633 dL_law_3635 dL_law_3636 dL_law_3639 dL_law_3641 dL_law_3646 dL_law_3648 dL_law_3651 dL_law_3652 dL_law_3653 dL_law_3654 dL_law_3656 dL_law_3657 dL_law_3658 dL_law_3663 (by decide) hT h2 ht hb (fun a6 a7 a8 => k S2 a6 a7 a8 h2)
set_option maxHeartbeats 800000 in
theorem law_c51 {X : e_XT} {d T i ax am ao ad : Nat} {a6 a7 a8 : Option Value} {S : e_SS} {Q : e_Rt → e_SS → Prop} (hX : (X 8).1 = 0) (hXX : v_X X) (hi : i + 8 ≤ (X 0).1) (hL : (X 0).1 ≤ 4096) (hT : T < 512) (h : h_L T ax am ao ad S) (k : ∀ S2 a6 a7 a8, h_L (T + 1) ax am ao ad S2 → s_w X (d + 13) K_law 4021 (l_ll ax am ao ad i a6 a7 a8) [] S2 Q) : s_w X (d + 13) K_law 3666 (l_ll ax am ao ad i a6 a7 a8) [] S Q := by
  have h0 := h.f (Nat.le_of_lt hT)
  have hc := h0.1.2.2
  obtain ⟨p, I, J, c, w⟩ := S
  refine w_op (K := K_law) (pc' := 3667) (ll' := (l_ll ax am ao ad i a6 a7 a8)) (st' := [.ref ax]) dL_law_3666 rfl ?_
  refine l_callH (As := []) (rest := []) dL_law_3667 rfl rM_X11_recorded (by decide) rfl rfl (by decide) rfl (Nat.le_of_ble_eq_true rfl) h0.2.1 (lp_recorded (d := d) (hX := hX) (hT := hT)  (h := h) (k := fun v S1 hB => ?_))
  show s_w X (d + 13) K_law 3670 (l_ll ax am ao ad i a6 a7 a8) [.int v] S1 Q
  have hf := (hB (fun _ _ => True) (fun _ _ => trivial)).1
  refine w_op (K := K_law) (pc' := 3671) (ll' := (l_ll ax am ao ad i a6 a7 a8)) (st' := [.ref am, .int v]) dL_law_3670 rfl ?_
  refine l_callM (As := []) (rest := [.int v]) dL_law_3671 rfl rM_X16_recorded (by decide) rfl rfl (by decide) rfl (Nat.le_of_ble_eq_true rfl) hf ((hB _ (fun S2 h2 => ?_)).2)
  show s_w X (d + 13) K_law 3674 (l_ll ax am ao ad i a6 a7 a8) [.int v, .int v] S2 Q
  exact w_icmpeq (K := K_law) (t := 4021) dL_law_3674 (by decide) (fun _ => k S2 a6 a7 a8 h2) (fun z => absurd rfl z)
set_option maxHeartbeats 800000 in
theorem law_c52 {X : e_XT} {d T i ax am ao ad : Nat} {a6 a7 a8 : Option Value} {S : e_SS} {Q : e_Rt → e_SS → Prop} (hX : (X 8).1 = 0) (hXX : v_X X) (hi : i + 8 ≤ (X 0).1) (hL : (X 0).1 ≤ 4096) (hT : T < 512) (h : h_L T ax am ao ad S) (k : ∀ S2 a6 a7 a8, h_L (T + 1) ax am ao ad S2 → s_w X (d + 13) K_law 4021 (l_ll ax am ao ad i a6 a7 a8) [] S2 Q) : s_w X (d + 13) K_law 3679 (l_ll ax am ao ad i a6 a7 a8) [] S Q := by
  have h0 := h.f (Nat.le_of_lt hT)
  have hc := h0.1.2.2
  obtain ⟨p, I, J, c, w⟩ := S
  refine w_op (K := K_law) (pc' := 3680) (ll' := (l_ll ax am ao ad i a6 a7 a8)) (st' := [.ref ax]) dL_law_3679 rfl ?_
  refine w_op (K := K_law) (pc' := 3681) (ll' := (l_ll ax am ao ad i a6 a7 a8)) (st' := [.ref ao, .ref ax]) dL_law_3680 rfl ?_
  refine t_callS (K := K_law) (As := [.ref ax, .ref ao]) (rest := []) dL_law_3681 rfl rM_L_playBack (by decide) rfl rfl (by decide) (Nat.le_of_ble_eq_true rfl) (lp_playBack (d := d) (hX := hX) (hT := hT)  (h := h) (k := fun k' S1 hB => ?_))
  show s_w X (d + 13) K_law 3684 (l_ll ax am ao ad i a6 a7 a8) [.int k'] S1 Q
  refine l_is6 (pc := 3684) dL_law_3684 ?_
  have hf := (hB (fun _ _ => True) (fun _ _ _ _ _ => trivial)).1
  refine w_op (K := K_law) (pc' := 3687) (ll' := (l_ll ax am ao ad i (some (.int k')) a7 a8)) (st' := [.ref am]) dL_law_3686 rfl ?_
  refine l_callM (As := []) (rest := []) dL_law_3687 rfl rM_X16_playBack (by decide) rfl rfl (by decide) rfl (Nat.le_of_ble_eq_true rfl) hf ((hB _ (fun b S2 h2 ht hb => ?_)).2)
  show s_w X (d + 13) K_law 3690 (l_ll ax am ao ad i (some (.int k')) a7 a8) [.int b] S2 Q
  exact law_tI (pc := 3690) dL_law_3690 dL_law_3692 dL_law_3693 dL_law_3696 dL_law_3698 dL_law_3703 dL_law_3705 dL_law_3708 dL_law_3709 dL_law_3710 dL_law_3711 dL_law_3713 dL_law_3714 dL_law_3715 dL_law_3720 (by decide) hT h2 ht hb (fun a6 a7 a8 => k S2 a6 a7 a8 h2)
set_option maxHeartbeats 800000 in
theorem law_c53 {X : e_XT} {d T i ax am ao ad : Nat} {a6 a7 a8 : Option Value} {S : e_SS} {Q : e_Rt → e_SS → Prop} (hX : (X 8).1 = 0) (hXX : v_X X) (hi : i + 8 ≤ (X 0).1) (hL : (X 0).1 ≤ 4096) (hT : T < 512) (h : h_L T ax am ao ad S) (k : ∀ S2 a6 a7 a8, h_L (T + 1) ax am ao ad S2 → s_w X (d + 13) K_law 4021 (l_ll ax am ao ad i a6 a7 a8) [] S2 Q) : s_w X (d + 13) K_law 3723 (l_ll ax am ao ad i a6 a7 a8) [] S Q := by
  have h0 := h.f (Nat.le_of_lt hT)
  have hc := h0.1.2.2
  obtain ⟨p, I, J, c, w⟩ := S
  refine w_op (K := K_law) (pc' := 3724) (ll' := (l_ll ax am ao ad i a6 a7 a8)) (st' := [.ref ax]) dL_law_3723 rfl ?_
  refine l_arg1 (pc := 3724) (n := 1) dL_law_3724 dL_law_3725 dL_law_3727 dL_law_3728 dL_law_3729 (by decide) (by omega) hL hc ?_
  refine l_arg1 (pc := 3730) (n := 2) dL_law_3730 dL_law_3731 dL_law_3733 dL_law_3734 dL_law_3735 (by decide) (by omega) hL hc ?_
  refine l_bool (pc := 3736) dL_law_3736 dL_law_3739 dL_law_3740 dL_law_3743 ?_
  refine w_op (K := K_law) (pc' := 3745) (ll' := (l_ll ax am ao ad i a6 a7 a8)) (st' := [.ref ao, .int (l_b ((X 0).2 (i + 2))), .int ((X 0).2 (i + 1)), .ref ax]) dL_law_3744 rfl ?_
  refine t_callS (K := K_law) (As := [.ref ax, .int ((X 0).2 (i + 1)), .int (l_b ((X 0).2 (i + 2))), .ref ao]) (rest := []) dL_law_3745 rfl rM_L_scale (by decide) rfl rfl (by decide) (Nat.le_of_ble_eq_true rfl) (lp_scale (d := d) (hX := hX) (hT := hT) (hy := l_b01) (h := h) (k := fun k' S1 hB => ?_))
  show s_w X (d + 13) K_law 3748 (l_ll ax am ao ad i a6 a7 a8) [.int k'] S1 Q
  refine l_is6 (pc := 3748) dL_law_3748 ?_
  have hf := (hB (fun _ _ => True) (fun _ _ _ _ _ => trivial)).1
  refine w_op (K := K_law) (pc' := 3751) (ll' := (l_ll ax am ao ad i (some (.int k')) a7 a8)) (st' := [.ref am]) dL_law_3750 rfl ?_
  refine l_arg1 (pc := 3751) (n := 1) dL_law_3751 dL_law_3752 dL_law_3754 dL_law_3755 dL_law_3756 (by decide) (by omega) hL hf.2.2 ?_
  refine l_arg1 (pc := 3757) (n := 2) dL_law_3757 dL_law_3758 dL_law_3760 dL_law_3761 dL_law_3762 (by decide) (by omega) hL hf.2.2 ?_
  refine l_bool (pc := 3763) dL_law_3763 dL_law_3766 dL_law_3767 dL_law_3770 ?_
  refine l_callM (As := [.int ((X 0).2 (i + 1)), .int (l_b ((X 0).2 (i + 2)))]) (rest := []) dL_law_3771 rfl rM_X16_scale (by decide) rfl rfl (by decide) rfl (Nat.le_of_ble_eq_true rfl) hf ((hB _ (fun b S2 h2 ht hb => ?_)).2)
  show s_w X (d + 13) K_law 3774 (l_ll ax am ao ad i (some (.int k')) a7 a8) [.int b] S2 Q
  exact law_tI (pc := 3774) dL_law_3774 dL_law_3776 dL_law_3777 dL_law_3780 dL_law_3782 dL_law_3787 dL_law_3789 dL_law_3792 dL_law_3793 dL_law_3794 dL_law_3795 dL_law_3797 dL_law_3798 dL_law_3799 dL_law_3804 (by decide) hT h2 ht hb (fun a6 a7 a8 => k S2 a6 a7 a8 h2)
set_option maxHeartbeats 800000 in
theorem law_c54 {X : e_XT} {d T i ax am ao ad : Nat} {a6 a7 a8 : Option Value} {S : e_SS} {Q : e_Rt → e_SS → Prop} (hX : (X 8).1 = 0) (hXX : v_X X) (hi : i + 8 ≤ (X 0).1) (hL : (X 0).1 ≤ 4096) (hT : T < 512) (h : h_L T ax am ao ad S) (k : ∀ S2 a6 a7 a8, h_L (T + 1) ax am ao ad S2 → s_w X (d + 13) K_law 4021 (l_ll ax am ao ad i a6 a7 a8) [] S2 Q) : s_w X (d + 13) K_law 3807 (l_ll ax am ao ad i a6 a7 a8) [] S Q := by
  have h0 := h.f (Nat.le_of_lt hT)
  have hc := h0.1.2.2
  obtain ⟨p, I, J, c, w⟩ := S
  refine w_op (K := K_law) (pc' := 3808) (ll' := (l_ll ax am ao ad i a6 a7 a8)) (st' := [.ref ax]) dL_law_3807 rfl ?_
  refine l_arg1 (pc := 3808) (n := 1) dL_law_3808 dL_law_3809 dL_law_3811 dL_law_3812 dL_law_3813 (by decide) (by omega) hL hc ?_
  refine l_arg1 (pc := 3814) (n := 2) dL_law_3814 dL_law_3815 dL_law_3817 dL_law_3818 dL_law_3819 (by decide) (by omega) hL hc ?_
  refine l_i2c (pc := 3820) dL_law_3820 ?_
  refine w_op (K := K_law) (pc' := 3822) (ll' := (l_ll ax am ao ad i a6 a7 a8)) (st' := [.ref ao, .int (l_ch ((X 0).2 (i + 2))), .int ((X 0).2 (i + 1)), .ref ax]) dL_law_3821 rfl ?_
  refine t_callS (K := K_law) (As := [.ref ax, .int ((X 0).2 (i + 1)), .int (l_ch ((X 0).2 (i + 2))), .ref ao]) (rest := []) dL_law_3822 rfl rM_L_realise (by decide) rfl rfl (by decide) (Nat.le_of_ble_eq_true rfl) (lp_realise (d := d) (hX := hX) (hT := hT) (hXX := hXX) (h := h) (k := fun k' S1 hB => ?_))
  show s_w X (d + 13) K_law 3825 (l_ll ax am ao ad i a6 a7 a8) [.int k'] S1 Q
  refine l_is6 (pc := 3825) dL_law_3825 ?_
  have hf := (hB (fun _ _ => True) (fun _ _ _ _ _ => trivial)).1
  refine w_op (K := K_law) (pc' := 3828) (ll' := (l_ll ax am ao ad i (some (.int k')) a7 a8)) (st' := [.ref am]) dL_law_3827 rfl ?_
  refine l_arg1 (pc := 3828) (n := 1) dL_law_3828 dL_law_3829 dL_law_3831 dL_law_3832 dL_law_3833 (by decide) (by omega) hL hf.2.2 ?_
  refine l_arg1 (pc := 3834) (n := 2) dL_law_3834 dL_law_3835 dL_law_3837 dL_law_3838 dL_law_3839 (by decide) (by omega) hL hf.2.2 ?_
  refine l_i2c (pc := 3840) dL_law_3840 ?_
  refine l_callM (As := [.int ((X 0).2 (i + 1)), .int (l_ch ((X 0).2 (i + 2)))]) (rest := []) dL_law_3841 rfl rM_X16_realise (by decide) rfl rfl (by decide) rfl (Nat.le_of_ble_eq_true rfl) hf ((hB _ (fun b S2 h2 ht hb => ?_)).2)
  show s_w X (d + 13) K_law 3844 (l_ll ax am ao ad i (some (.int k')) a7 a8) [.int b] S2 Q
  exact law_tI (pc := 3844) dL_law_3844 dL_law_3846 dL_law_3847 dL_law_3850 dL_law_3852 dL_law_3857 dL_law_3859 dL_law_3862 dL_law_3863 dL_law_3864 dL_law_3865 dL_law_3867 dL_law_3868 dL_law_3869 dL_law_3874 (by decide) hT h2 ht hb (fun a6 a7 a8 => k S2 a6 a7 a8 h2)
set_option maxHeartbeats 800000 in
theorem law_c55 {X : e_XT} {d T i ax am ao ad : Nat} {a6 a7 a8 : Option Value} {S : e_SS} {Q : e_Rt → e_SS → Prop} (hX : (X 8).1 = 0) (hXX : v_X X) (hi : i + 8 ≤ (X 0).1) (hL : (X 0).1 ≤ 4096) (hT : T < 512) (h : h_L T ax am ao ad S) (k : ∀ S2 a6 a7 a8, h_L (T + 1) ax am ao ad S2 → s_w X (d + 13) K_law 4021 (l_ll ax am ao ad i a6 a7 a8) [] S2 Q) : s_w X (d + 13) K_law 3877 (l_ll ax am ao ad i a6 a7 a8) [] S Q := by
  have h0 := h.f (Nat.le_of_lt hT)
  have hc := h0.1.2.2
  obtain ⟨p, I, J, c, w⟩ := S
  refine w_op (K := K_law) (pc' := 3878) (ll' := (l_ll ax am ao ad i a6 a7 a8)) (st' := [.ref ax]) dL_law_3877 rfl ?_
  refine w_op (K := K_law) (pc' := 3880) (ll' := (l_ll ax am ao ad i a6 a7 a8)) (st' := [.ref ad, .ref ax]) dL_law_3878 rfl ?_
  refine t_callS (K := K_law) (As := [.ref ax, .ref ad]) (rest := []) dL_law_3880 rfl rM_L_speakingShare (by decide) rfl rfl (by decide) (Nat.le_of_ble_eq_true rfl) (lp_speakingShare (d := d) (hX := hX) (hT := hT)  (h := h) (k := fun k' S1 hB => ?_))
  show s_w X (d + 13) K_law 3883 (l_ll ax am ao ad i a6 a7 a8) [.int k'] S1 Q
  refine l_is6 (pc := 3883) dL_law_3883 ?_
  have hf := (hB (fun _ _ => True) (fun _ _ _ _ _ => trivial)).1
  refine w_op (K := K_law) (pc' := 3886) (ll' := (l_ll ax am ao ad i (some (.int k')) a7 a8)) (st' := [.ref am]) dL_law_3885 rfl ?_
  refine l_callM (As := []) (rest := []) dL_law_3886 rfl rM_X16_speakingShare (by decide) rfl rfl (by decide) rfl (Nat.le_of_ble_eq_true rfl) hf ((hB _ (fun b S2 h2 ht hb => ?_)).2)
  show s_w X (d + 13) K_law 3889 (l_ll ax am ao ad i (some (.int k')) a7 a8) [.float b] S2 Q
  exact law_tF (pc := 3889) dL_law_3889 dL_law_3891 dL_law_3892 dL_law_3895 dL_law_3897 dL_law_3902 dL_law_3904 dL_law_3907 dL_law_3909 dL_law_3910 dL_law_3911 dL_law_3913 dL_law_3914 dL_law_3915 dL_law_3940 (by decide) hT h2 ht hb (fun a6 a7 a8 => k S2 a6 a7 a8 h2)
set_option maxHeartbeats 800000 in
theorem law_c56 {X : e_XT} {d T i ax am ao ad : Nat} {a6 a7 a8 : Option Value} {S : e_SS} {Q : e_Rt → e_SS → Prop} (hX : (X 8).1 = 0) (hXX : v_X X) (hi : i + 8 ≤ (X 0).1) (hL : (X 0).1 ≤ 4096) (hT : T < 512) (h : h_L T ax am ao ad S) (k : ∀ S2 a6 a7 a8, h_L (T + 1) ax am ao ad S2 → s_w X (d + 13) K_law 4021 (l_ll ax am ao ad i a6 a7 a8) [] S2 Q) : s_w X (d + 13) K_law 3943 (l_ll ax am ao ad i a6 a7 a8) [] S Q := by
  have h0 := h.f (Nat.le_of_lt hT)
  have hc := h0.1.2.2
  obtain ⟨p, I, J, c, w⟩ := S
  refine w_op (K := K_law) (pc' := 3944) (ll' := (l_ll ax am ao ad i a6 a7 a8)) (st' := [.ref ax]) dL_law_3943 rfl ?_
  refine w_op (K := K_law) (pc' := 3946) (ll' := (l_ll ax am ao ad i a6 a7 a8)) (st' := [.ref ad, .ref ax]) dL_law_3944 rfl ?_
  refine t_callS (K := K_law) (As := [.ref ax, .ref ad]) (rest := []) dL_law_3946 rfl rM_L_meanPitch (by decide) rfl rfl (by decide) (Nat.le_of_ble_eq_true rfl) (lp_meanPitch (d := d) (hX := hX) (hT := hT)  (h := h) (k := fun k' S1 hB => ?_))
  show s_w X (d + 13) K_law 3949 (l_ll ax am ao ad i a6 a7 a8) [.int k'] S1 Q
  refine l_is6 (pc := 3949) dL_law_3949 ?_
  have hf := (hB (fun _ _ => True) (fun _ _ _ _ _ => trivial)).1
  refine w_op (K := K_law) (pc' := 3952) (ll' := (l_ll ax am ao ad i (some (.int k')) a7 a8)) (st' := [.ref am]) dL_law_3951 rfl ?_
  refine l_callM (As := []) (rest := []) dL_law_3952 rfl rM_X16_meanPitch (by decide) rfl rfl (by decide) rfl (Nat.le_of_ble_eq_true rfl) hf ((hB _ (fun b S2 h2 ht hb => ?_)).2)
  show s_w X (d + 13) K_law 3955 (l_ll ax am ao ad i (some (.int k')) a7 a8) [.double b] S2 Q
  exact law_tD (pc := 3955) dL_law_3955 dL_law_3957 dL_law_3958 dL_law_3961 dL_law_3963 dL_law_3968 dL_law_3970 dL_law_3973 dL_law_3975 dL_law_3976 dL_law_3977 dL_law_3979 dL_law_3980 dL_law_4005 (by decide) hT h2 ht hb (fun a6 a7 a8 => k S2 a6 a7 a8 h2)
set_option maxHeartbeats 800000 in
theorem law_c57 {X : e_XT} {d T i ax am ao ad : Nat} {a6 a7 a8 : Option Value} {S : e_SS} {Q : e_Rt → e_SS → Prop} (hX : (X 8).1 = 0) (hXX : v_X X) (hi : i + 8 ≤ (X 0).1) (hL : (X 0).1 ≤ 4096) (hT : T < 512) (h : h_L T ax am ao ad S) (k : ∀ S2 a6 a7 a8, h_L (T + 1) ax am ao ad S2 → s_w X (d + 13) K_law 4021 (l_ll ax am ao ad i a6 a7 a8) [] S2 Q) : s_w X (d + 13) K_law 4008 (l_ll ax am ao ad i a6 a7 a8) [] S Q := by
  have h0 := h.f (Nat.le_of_lt hT)
  have hc := h0.1.2.2
  obtain ⟨p, I, J, c, w⟩ := S
  refine w_op (K := K_law) (pc' := 4009) (ll' := (l_ll ax am ao ad i a6 a7 a8)) (st' := [.ref ax]) dL_law_4008 rfl ?_
  refine l_callH (As := []) (rest := []) dL_law_4009 rfl rM_X11_isTrue (by decide) rfl rfl (by decide) rfl (Nat.le_of_ble_eq_true rfl) h0.2.1 (lp_isTrue (d := d) (hX := hX) (hT := hT)  (h := h) (k := fun v S1 hB => ?_))
  show s_w X (d + 13) K_law 4012 (l_ll ax am ao ad i a6 a7 a8) [.int v] S1 Q
  have hf := (hB (fun _ _ => True) (fun _ _ => trivial)).1
  refine w_op (K := K_law) (pc' := 4013) (ll' := (l_ll ax am ao ad i a6 a7 a8)) (st' := [.ref am, .int v]) dL_law_4012 rfl ?_
  refine l_callM (As := []) (rest := [.int v]) dL_law_4013 rfl rM_X16_isTrue (by decide) rfl rfl (by decide) rfl (Nat.le_of_ble_eq_true rfl) hf ((hB _ (fun S2 h2 => ?_)).2)
  show s_w X (d + 13) K_law 4016 (l_ll ax am ao ad i a6 a7 a8) [.int v, .int v] S2 Q
  exact w_icmpeq (K := K_law) (t := 4021) dL_law_4016 (by decide) (fun _ => k S2 a6 a7 a8 h2) (fun z => absurd rfl z)
