theorem e_M1_ok : e_M1.all e_Mck = true := by decide +kernel
theorem e_M2_ok : e_M2.all e_Mck = true := by decide +kernel
theorem e_M3_ok : e_M3.all e_Mck = true := by decide +kernel
theorem e_M4_ok : e_M4.all e_Mck = true := by decide +kernel
theorem e_M5_ok : e_M5.all e_Mck = true := by decide +kernel
theorem e_M6_ok : e_M6.all e_Mck = true := by decide +kernel
theorem e_M7_ok : e_M7.all e_Mck = true := by decide +kernel
theorem e_M8_ok : e_M8.all e_Mck = true := by decide +kernel
theorem e_M9_ok : e_M9.all e_Mck = true := by decide +kernel
theorem e_M10_ok : e_M10.all e_Mck = true := by decide +kernel
theorem e_M11_ok : e_M11.all e_Mck = true := by decide +kernel
theorem e_M_ok : ∀ r ∈ e_M, e_Mck r = true := by
  intro r h
  unfold e_M at h
  simp only [List.mem_append] at h
  rcases h with h | h | h | h | h | h | h | h | h | h | h | h
  · exact List.all_eq_true.mp e_M0_ok r h
  · exact List.all_eq_true.mp e_M1_ok r h
  · exact List.all_eq_true.mp e_M2_ok r h
  · exact List.all_eq_true.mp e_M3_ok r h
  · exact List.all_eq_true.mp e_M4_ok r h
  · exact List.all_eq_true.mp e_M5_ok r h
  · exact List.all_eq_true.mp e_M6_ok r h
  · exact List.all_eq_true.mp e_M7_ok r h
  · exact List.all_eq_true.mp e_M8_ok r h
  · exact List.all_eq_true.mp e_M9_ok r h
  · exact List.all_eq_true.mp e_M10_ok r h
  · exact List.all_eq_true.mp e_M11_ok r h
theorem e_good_code (y : MethodName) (b : ByteArray) (m : Nat) (r : Option FieldType) : goodWord (.code y b m r) = true := rfl
theorem e_good_codeW (y : MethodName) (b : ByteArray) (m : Nat) (r : Option FieldType) (hh : List (Nat × Nat × Nat × Nat)) : goodWord (.codeWith y b m r hh) = true := rfl
