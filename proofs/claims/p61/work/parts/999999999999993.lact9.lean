theorem v_encL {d : FP.Core.Datum} (h : v_okd FP.Core.b32 d) : FP.Core.encode FP.Core.b32 d < 2 ^ 32 := by
  obtain ⟨s, e, t, h1, h2, h3, h4⟩ := v_okE (T := 8388608) (E := 256) h (by decide) (by decide) (by decide) (by decide) (by decide) (by decide)
  rw [h1]
  omega
