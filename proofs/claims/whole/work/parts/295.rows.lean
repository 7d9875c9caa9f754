/-! 29b: the rows of the methods, their code, the door from a body to its contract (printed by wip/whole/walk.py) -/
abbrev r_Jx4a65c_init_da8c8 : e_MT := ((yJx4a65c_init_da8c8, 3), (0, false), (177, 176, 88, 9999))
abbrev K_Jx4a65c_init_da8c8 : e_KT := (3, true, cJx4a65c_init_da8c8, 1, [])
theorem rM_Jx4a65c_init_da8c8 : e_M[0]? = some r_Jx4a65c_init_da8c8 := by rfl
theorem rC_Jx4a65c_init_da8c8 : e_tb 177 = some (Cond.code yJx4a65c_init_da8c8 cJx4a65c_init_da8c8 1 (none)) := by decide +kernel
theorem m_Jx4a65c_init_da8c8 {X : e_XT} {d : Nat} {args : List Value} {S : e_SS} {Q : e_Rt → e_SS → Prop} (hlen : (e_slx args).length ≤ 1) (j : s_w X d K_Jx4a65c_init_da8c8 0 (e_ent0 args 1) [] S (fun r S' => e_rcr (none) r = true ∧ Q r S')) : s_c X d 0 args S Q := c_of rM_Jx4a65c_init_da8c8 rC_Jx4a65c_init_da8c8 rfl (fun _ => by rfl) hlen j
abbrev r_Jx4a65c_add_9ea2d : e_MT := ((yJx4a65c_add_9ea2d, 3), (1, false), (271, 269, 88, 270))
abbrev K_Jx4a65c_add_9ea2d : e_KT := (3, false, cJx4a65c_add_9ea2d, 2, [])
theorem rM_Jx4a65c_add_9ea2d : e_M[1]? = some r_Jx4a65c_add_9ea2d := by rfl
theorem rC_Jx4a65c_add_9ea2d : e_tb 271 = some (Cond.code yJx4a65c_add_9ea2d cJx4a65c_add_9ea2d 2 (some FieldType.boolean)) := by decide +kernel
theorem m_Jx4a65c_add_9ea2d {X : e_XT} {d : Nat} {args : List Value} {S : e_SS} {Q : e_Rt → e_SS → Prop} (hlen : (e_slx args).length ≤ 2) (j : s_w X d K_Jx4a65c_add_9ea2d 0 (e_ent0 args 2) [] S (fun r S' => e_rcr (some FieldType.boolean) r = true ∧ Q r S')) : s_c X d 1 args S Q := c_of rM_Jx4a65c_add_9ea2d rC_Jx4a65c_add_9ea2d rfl (fun _ => by contradiction) hlen j
abbrev r_Jx4a65c_add_72be8 : e_MT := ((yJx4a65c_add_72be8, 3), (3, false), (275, 274, 88, 0))
abbrev K_Jx4a65c_add_72be8 : e_KT := (3, false, cJx4a65c_add_72be8, 4, [])
theorem rM_Jx4a65c_add_72be8 : e_M[2]? = some r_Jx4a65c_add_72be8 := by rfl
theorem rC_Jx4a65c_add_72be8 : e_tb 275 = some (Cond.code yJx4a65c_add_72be8 cJx4a65c_add_72be8 4 (none)) := by decide +kernel
theorem m_Jx4a65c_add_72be8 {X : e_XT} {d : Nat} {args : List Value} {S : e_SS} {Q : e_Rt → e_SS → Prop} (hlen : (e_slx args).length ≤ 4) (j : s_w X d K_Jx4a65c_add_72be8 0 (e_ent0 args 4) [] S (fun r S' => e_rcr (none) r = true ∧ Q r S')) : s_c X d 2 args S Q := c_of rM_Jx4a65c_add_72be8 rC_Jx4a65c_add_72be8 rfl (fun _ => by contradiction) hlen j
abbrev r_Jx4a65c_grow_d5877 : e_MT := ((yJx4a65c_grow_d5877, 3), (0, false), (279, 278, 88, 1))
abbrev K_Jx4a65c_grow_d5877 : e_KT := (3, false, cJx4a65c_grow_d5877, 1, [])
theorem rM_Jx4a65c_grow_d5877 : e_M[3]? = some r_Jx4a65c_grow_d5877 := by rfl
theorem rC_Jx4a65c_grow_d5877 : e_tb 279 = some (Cond.code yJx4a65c_grow_d5877 cJx4a65c_grow_d5877 1 (some (FieldType.array (FieldType.object "java/lang/Object")))) := by decide +kernel
theorem m_Jx4a65c_grow_d5877 {X : e_XT} {d : Nat} {args : List Value} {S : e_SS} {Q : e_Rt → e_SS → Prop} (hlen : (e_slx args).length ≤ 1) (j : s_w X d K_Jx4a65c_grow_d5877 0 (e_ent0 args 1) [] S (fun r S' => e_rcr (some (FieldType.array (FieldType.object "java/lang/Object"))) r = true ∧ Q r S')) : s_c X d 3 args S Q := c_of rM_Jx4a65c_grow_d5877 rC_Jx4a65c_grow_d5877 rfl (fun _ => by contradiction) hlen j
abbrev r_Jx4a65c_grow_92f84 : e_MT := ((yJx4a65c_grow_92f84, 3), (1, false), (283, 282, 88, 2))
abbrev K_Jx4a65c_grow_92f84 : e_KT := (3, false, cJx4a65c_grow_92f84, 4, [])
theorem rM_Jx4a65c_grow_92f84 : e_M[4]? = some r_Jx4a65c_grow_92f84 := by rfl
theorem rC_Jx4a65c_grow_92f84 : e_tb 283 = some (Cond.code yJx4a65c_grow_92f84 cJx4a65c_grow_92f84 4 (some (FieldType.array (FieldType.object "java/lang/Object")))) := by decide +kernel
theorem m_Jx4a65c_grow_92f84 {X : e_XT} {d : Nat} {args : List Value} {S : e_SS} {Q : e_Rt → e_SS → Prop} (hlen : (e_slx args).length ≤ 4) (j : s_w X d K_Jx4a65c_grow_92f84 0 (e_ent0 args 4) [] S (fun r S' => e_rcr (some (FieldType.array (FieldType.object "java/lang/Object"))) r = true ∧ Q r S')) : s_c X d 4 args S Q := c_of rM_Jx4a65c_grow_92f84 rC_Jx4a65c_grow_92f84 rfl (fun _ => by contradiction) hlen j
abbrev r_Jx4a65c_size_8abf5 : e_MT := ((yJx4a65c_size_8abf5, 3), (0, false), (585, 583, 88, 584))
abbrev K_Jx4a65c_size_8abf5 : e_KT := (3, false, cJx4a65c_size_8abf5, 1, [])
theorem rM_Jx4a65c_size_8abf5 : e_M[5]? = some r_Jx4a65c_size_8abf5 := by rfl
theorem rC_Jx4a65c_size_8abf5 : e_tb 585 = some (Cond.code yJx4a65c_size_8abf5 cJx4a65c_size_8abf5 1 (some FieldType.int)) := by decide +kernel
theorem m_Jx4a65c_size_8abf5 {X : e_XT} {d : Nat} {args : List Value} {S : e_SS} {Q : e_Rt → e_SS → Prop} (hlen : (e_slx args).length ≤ 1) (j : s_w X d K_Jx4a65c_size_8abf5 0 (e_ent0 args 1) [] S (fun r S' => e_rcr (some FieldType.int) r = true ∧ Q r S')) : s_c X d 5 args S Q := c_of rM_Jx4a65c_size_8abf5 rC_Jx4a65c_size_8abf5 rfl (fun _ => by contradiction) hlen j
abbrev r_Jx4a65c_get_915e3 : e_MT := ((yJx4a65c_get_915e3, 3), (1, false), (589, 587, 88, 588))
abbrev K_Jx4a65c_get_915e3 : e_KT := (3, false, cJx4a65c_get_915e3, 2, [])
theorem rM_Jx4a65c_get_915e3 : e_M[6]? = some r_Jx4a65c_get_915e3 := by rfl
theorem rC_Jx4a65c_get_915e3 : e_tb 589 = some (Cond.code yJx4a65c_get_915e3 cJx4a65c_get_915e3 2 (some (FieldType.object "java/lang/Object"))) := by decide +kernel
theorem m_Jx4a65c_get_915e3 {X : e_XT} {d : Nat} {args : List Value} {S : e_SS} {Q : e_Rt → e_SS → Prop} (hlen : (e_slx args).length ≤ 2) (j : s_w X d K_Jx4a65c_get_915e3 0 (e_ent0 args 2) [] S (fun r S' => e_rcr (some (FieldType.object "java/lang/Object")) r = true ∧ Q r S')) : s_c X d 6 args S Q := c_of rM_Jx4a65c_get_915e3 rC_Jx4a65c_get_915e3 rfl (fun _ => by contradiction) hlen j
abbrev r_Jx4a65c_elementData_915e3 : e_MT := ((yJx4a65c_elementData_915e3, 3), (1, false), (599, 597, 88, 598))
abbrev K_Jx4a65c_elementData_915e3 : e_KT := (3, false, cJx4a65c_elementData_915e3, 2, [])
theorem rM_Jx4a65c_elementData_915e3 : e_M[7]? = some r_Jx4a65c_elementData_915e3 := by rfl
theorem rC_Jx4a65c_elementData_915e3 : e_tb 599 = some (Cond.code yJx4a65c_elementData_915e3 cJx4a65c_elementData_915e3 2 (some (FieldType.object "java/lang/Object"))) := by decide +kernel
theorem m_Jx4a65c_elementData_915e3 {X : e_XT} {d : Nat} {args : List Value} {S : e_SS} {Q : e_Rt → e_SS → Prop} (hlen : (e_slx args).length ≤ 2) (j : s_w X d K_Jx4a65c_elementData_915e3 0 (e_ent0 args 2) [] S (fun r S' => e_rcr (some (FieldType.object "java/lang/Object")) r = true ∧ Q r S')) : s_c X d 7 args S Q := c_of rM_Jx4a65c_elementData_915e3 rC_Jx4a65c_elementData_915e3 rfl (fun _ => by contradiction) hlen j
abbrev r_Jx4a65c_add_7a177 : e_MT := ((yJx4a65c_add_7a177, 3), (2, false), (2491, 2489, 88, 2490))
abbrev K_Jx4a65c_add_7a177 : e_KT := (3, false, cJx4a65c_add_7a177, 5, [])
theorem rM_Jx4a65c_add_7a177 : e_M[8]? = some r_Jx4a65c_add_7a177 := by rfl
theorem rC_Jx4a65c_add_7a177 : e_tb 2491 = some (Cond.code yJx4a65c_add_7a177 cJx4a65c_add_7a177 5 (none)) := by decide +kernel
theorem m_Jx4a65c_add_7a177 {X : e_XT} {d : Nat} {args : List Value} {S : e_SS} {Q : e_Rt → e_SS → Prop} (hlen : (e_slx args).length ≤ 5) (j : s_w X d K_Jx4a65c_add_7a177 0 (e_ent0 args 5) [] S (fun r S' => e_rcr (none) r = true ∧ Q r S')) : s_c X d 8 args S Q := c_of rM_Jx4a65c_add_7a177 rC_Jx4a65c_add_7a177 rfl (fun _ => by contradiction) hlen j
abbrev r_Jx4a65c_rangeCheckForAdd_d00df : e_MT := ((yJx4a65c_rangeCheckForAdd_d00df, 3), (1, false), (2495, 2494, 88, 70))
abbrev K_Jx4a65c_rangeCheckForAdd_d00df : e_KT := (3, false, cJx4a65c_rangeCheckForAdd_d00df, 2, [])
theorem rM_Jx4a65c_rangeCheckForAdd_d00df : e_M[9]? = some r_Jx4a65c_rangeCheckForAdd_d00df := by rfl
theorem rC_Jx4a65c_rangeCheckForAdd_d00df : e_tb 2495 = some (Cond.code yJx4a65c_rangeCheckForAdd_d00df cJx4a65c_rangeCheckForAdd_d00df 2 (none)) := by decide +kernel
theorem m_Jx4a65c_rangeCheckForAdd_d00df {X : e_XT} {d : Nat} {args : List Value} {S : e_SS} {Q : e_Rt → e_SS → Prop} (hlen : (e_slx args).length ≤ 2) (j : s_w X d K_Jx4a65c_rangeCheckForAdd_d00df 0 (e_ent0 args 2) [] S (fun r S' => e_rcr (none) r = true ∧ Q r S')) : s_c X d 9 args S Q := c_of rM_Jx4a65c_rangeCheckForAdd_d00df rC_Jx4a65c_rangeCheckForAdd_d00df rfl (fun _ => by contradiction) hlen j
abbrev r_Jx4a65c_outOfBoundsMsg_b52d3 : e_MT := ((yJx4a65c_outOfBoundsMsg_b52d3, 3), (1, false), (2500, 2499, 88, 71))
abbrev K_Jx4a65c_outOfBoundsMsg_b52d3 : e_KT := (3, false, cJx4a65c_outOfBoundsMsg_b52d3, 2, [])
theorem rM_Jx4a65c_outOfBoundsMsg_b52d3 : e_M[10]? = some r_Jx4a65c_outOfBoundsMsg_b52d3 := by rfl
theorem rC_Jx4a65c_outOfBoundsMsg_b52d3 : e_tb 2500 = some (Cond.code yJx4a65c_outOfBoundsMsg_b52d3 cJx4a65c_outOfBoundsMsg_b52d3 2 (some (FieldType.object "java/lang/String"))) := by decide +kernel
theorem m_Jx4a65c_outOfBoundsMsg_b52d3 {X : e_XT} {d : Nat} {args : List Value} {S : e_SS} {Q : e_Rt → e_SS → Prop} (hlen : (e_slx args).length ≤ 2) (j : s_w X d K_Jx4a65c_outOfBoundsMsg_b52d3 0 (e_ent0 args 2) [] S (fun r S' => e_rcr (some (FieldType.object "java/lang/String")) r = true ∧ Q r S')) : s_c X d 10 args S Q := c_of rM_Jx4a65c_outOfBoundsMsg_b52d3 rC_Jx4a65c_outOfBoundsMsg_b52d3 rfl (fun _ => by contradiction) hlen j
abbrev r_Jx4a65c_remove_915e3 : e_MT := ((yJx4a65c_remove_915e3, 3), (1, false), (2734, 2732, 88, 2733))
abbrev K_Jx4a65c_remove_915e3 : e_KT := (3, false, cJx4a65c_remove_915e3, 4, [])
theorem rM_Jx4a65c_remove_915e3 : e_M[11]? = some r_Jx4a65c_remove_915e3 := by rfl
theorem rC_Jx4a65c_remove_915e3 : e_tb 2734 = some (Cond.code yJx4a65c_remove_915e3 cJx4a65c_remove_915e3 4 (some (FieldType.object "java/lang/Object"))) := by decide +kernel
theorem m_Jx4a65c_remove_915e3 {X : e_XT} {d : Nat} {args : List Value} {S : e_SS} {Q : e_Rt → e_SS → Prop} (hlen : (e_slx args).length ≤ 4) (j : s_w X d K_Jx4a65c_remove_915e3 0 (e_ent0 args 4) [] S (fun r S' => e_rcr (some (FieldType.object "java/lang/Object")) r = true ∧ Q r S')) : s_c X d 11 args S Q := c_of rM_Jx4a65c_remove_915e3 rC_Jx4a65c_remove_915e3 rfl (fun _ => by contradiction) hlen j
abbrev r_Jx4a65c_fastRemove_b59b0 : e_MT := ((yJx4a65c_fastRemove_b59b0, 3), (2, false), (2738, 2737, 88, 72))
abbrev K_Jx4a65c_fastRemove_b59b0 : e_KT := (3, false, cJx4a65c_fastRemove_b59b0, 4, [])
theorem rM_Jx4a65c_fastRemove_b59b0 : e_M[12]? = some r_Jx4a65c_fastRemove_b59b0 := by rfl
theorem rC_Jx4a65c_fastRemove_b59b0 : e_tb 2738 = some (Cond.code yJx4a65c_fastRemove_b59b0 cJx4a65c_fastRemove_b59b0 4 (none)) := by decide +kernel
theorem m_Jx4a65c_fastRemove_b59b0 {X : e_XT} {d : Nat} {args : List Value} {S : e_SS} {Q : e_Rt → e_SS → Prop} (hlen : (e_slx args).length ≤ 4) (j : s_w X d K_Jx4a65c_fastRemove_b59b0 0 (e_ent0 args 4) [] S (fun r S' => e_rcr (none) r = true ∧ Q r S')) : s_c X d 12 args S Q := c_of rM_Jx4a65c_fastRemove_b59b0 rC_Jx4a65c_fastRemove_b59b0 rfl (fun _ => by contradiction) hlen j
abbrev r_Jx4a65c_clear_da8c8 : e_MT := ((yJx4a65c_clear_da8c8, 3), (0, false), (2765, 2763, 88, 2764))
abbrev K_Jx4a65c_clear_da8c8 : e_KT := (3, false, cJx4a65c_clear_da8c8, 4, [])
theorem rM_Jx4a65c_clear_da8c8 : e_M[13]? = some r_Jx4a65c_clear_da8c8 := by rfl
theorem rC_Jx4a65c_clear_da8c8 : e_tb 2765 = some (Cond.code yJx4a65c_clear_da8c8 cJx4a65c_clear_da8c8 4 (none)) := by decide +kernel
theorem m_Jx4a65c_clear_da8c8 {X : e_XT} {d : Nat} {args : List Value} {S : e_SS} {Q : e_Rt → e_SS → Prop} (hlen : (e_slx args).length ≤ 4) (j : s_w X d K_Jx4a65c_clear_da8c8 0 (e_ent0 args 4) [] S (fun r S' => e_rcr (none) r = true ∧ Q r S')) : s_c X d 13 args S Q := c_of rM_Jx4a65c_clear_da8c8 rC_Jx4a65c_clear_da8c8 rfl (fun _ => by contradiction) hlen j
abbrev r_Jx4a65c_isEmpty_aae02 : e_MT := ((yJx4a65c_isEmpty_aae02, 3), (0, false), (2777, 2775, 88, 2776))
abbrev K_Jx4a65c_isEmpty_aae02 : e_KT := (3, false, cJx4a65c_isEmpty_aae02, 1, [])
theorem rM_Jx4a65c_isEmpty_aae02 : e_M[14]? = some r_Jx4a65c_isEmpty_aae02 := by rfl
theorem rC_Jx4a65c_isEmpty_aae02 : e_tb 2777 = some (Cond.code yJx4a65c_isEmpty_aae02 cJx4a65c_isEmpty_aae02 1 (some FieldType.boolean)) := by decide +kernel
theorem m_Jx4a65c_isEmpty_aae02 {X : e_XT} {d : Nat} {args : List Value} {S : e_SS} {Q : e_Rt → e_SS → Prop} (hlen : (e_slx args).length ≤ 1) (j : s_w X d K_Jx4a65c_isEmpty_aae02 0 (e_ent0 args 1) [] S (fun r S' => e_rcr (some FieldType.boolean) r = true ∧ Q r S')) : s_c X d 14 args S Q := c_of rM_Jx4a65c_isEmpty_aae02 rC_Jx4a65c_isEmpty_aae02 rfl (fun _ => by contradiction) hlen j
abbrev r_X0_init : e_MT := ((yX0_init, 4), (0, false), (171, 170, 85, 9999))
abbrev K_X0_init : e_KT := (4, true, cX0_init, 2, [])
theorem rM_X0_init : e_M[15]? = some r_X0_init := by rfl
theorem rC_X0_init : e_tb 171 = some (Cond.code yX0_init cX0_init 2 (none)) := by decide +kernel
theorem m_X0_init {X : e_XT} {d : Nat} {args : List Value} {S : e_SS} {Q : e_Rt → e_SS → Prop} (hlen : (e_slx args).length ≤ 2) (j : s_w X d K_X0_init 0 (e_ent0 args 2) [] S (fun r S' => e_rcr (none) r = true ∧ Q r S')) : s_c X d 15 args S Q := c_of rM_X0_init rC_X0_init rfl (fun _ => by rfl) hlen j
abbrev r_X0_findRelays : e_MT := ((yX0_findRelays, 4), (1, false), (562, 560, 85, 561))
abbrev K_X0_findRelays : e_KT := (4, false, cX0_findRelays, 5, [])
theorem rM_X0_findRelays : e_M[16]? = some r_X0_findRelays := by rfl
theorem rC_X0_findRelays : e_tb 562 = some (Cond.code yX0_findRelays cX0_findRelays 5 (none)) := by decide +kernel
theorem m_X0_findRelays {X : e_XT} {d : Nat} {args : List Value} {S : e_SS} {Q : e_Rt → e_SS → Prop} (hlen : (e_slx args).length ≤ 5) (j : s_w X d K_X0_findRelays 0 (e_ent0 args 5) [] S (fun r S' => e_rcr (none) r = true ∧ Q r S')) : s_c X d 16 args S Q := c_of rM_X0_findRelays rC_X0_findRelays rfl (fun _ => by contradiction) hlen j
abbrev r_X0_isSourceOn : e_MT := ((yX0_isSourceOn, 4), (2, false), (566, 565, 85, 3))
abbrev K_X0_isSourceOn : e_KT := (4, false, cX0_isSourceOn, 4, [])
theorem rM_X0_isSourceOn : e_M[17]? = some r_X0_isSourceOn := by rfl
theorem rC_X0_isSourceOn : e_tb 566 = some (Cond.code yX0_isSourceOn cX0_isSourceOn 4 (some FieldType.boolean)) := by decide +kernel
theorem m_X0_isSourceOn {X : e_XT} {d : Nat} {args : List Value} {S : e_SS} {Q : e_Rt → e_SS → Prop} (hlen : (e_slx args).length ≤ 4) (j : s_w X d K_X0_isSourceOn 0 (e_ent0 args 4) [] S (fun r S' => e_rcr (some FieldType.boolean) r = true ∧ Q r S')) : s_c X d 17 args S Q := c_of rM_X0_isSourceOn rC_X0_isSourceOn rfl (fun _ => by contradiction) hlen j
abbrev r_X0_isRelayOn : e_MT := ((yX0_isRelayOn, 4), (1, false), (570, 568, 85, 569))
abbrev K_X0_isRelayOn : e_KT := (4, false, cX0_isRelayOn, 2, [])
theorem rM_X0_isRelayOn : e_M[18]? = some r_X0_isRelayOn := by rfl
theorem rC_X0_isRelayOn : e_tb 570 = some (Cond.code yX0_isRelayOn cX0_isRelayOn 2 (some FieldType.boolean)) := by decide +kernel
theorem m_X0_isRelayOn {X : e_XT} {d : Nat} {args : List Value} {S : e_SS} {Q : e_Rt → e_SS → Prop} (hlen : (e_slx args).length ≤ 2) (j : s_w X d K_X0_isRelayOn 0 (e_ent0 args 2) [] S (fun r S' => e_rcr (some FieldType.boolean) r = true ∧ Q r S')) : s_c X d 18 args S Q := c_of rM_X0_isRelayOn rC_X0_isRelayOn rfl (fun _ => by contradiction) hlen j
abbrev r_X0_knobAt : e_MT := ((yX0_knobAt, 4), (1, false), (581, 579, 85, 580))
abbrev K_X0_knobAt : e_KT := (4, false, cX0_knobAt, 2, [])
theorem rM_X0_knobAt : e_M[19]? = some r_X0_knobAt := by rfl
theorem rC_X0_knobAt : e_tb 581 = some (Cond.code yX0_knobAt cX0_knobAt 2 (some (FieldType.object "Rankhall$Knob"))) := by decide +kernel
theorem m_X0_knobAt {X : e_XT} {d : Nat} {args : List Value} {S : e_SS} {Q : e_Rt → e_SS → Prop} (hlen : (e_slx args).length ≤ 2) (j : s_w X d K_X0_knobAt 0 (e_ent0 args 2) [] S (fun r S' => e_rcr (some (FieldType.object "Rankhall$Knob")) r = true ∧ Q r S')) : s_c X d 19 args S Q := c_of rM_X0_knobAt rC_X0_knobAt rfl (fun _ => by contradiction) hlen j
abbrev r_X0_combines : e_MT := ((yX0_combines, 4), (3, true), (602, 601, 85, 9999))
abbrev K_X0_combines : e_KT := (4, false, cX0_combines, 3, [])
theorem rM_X0_combines : e_M[20]? = some r_X0_combines := by rfl
theorem rC_X0_combines : e_tb 602 = some (Cond.code yX0_combines cX0_combines 3 (some FieldType.boolean)) := by decide +kernel
theorem m_X0_combines {X : e_XT} {d : Nat} {args : List Value} {S : e_SS} {Q : e_Rt → e_SS → Prop} (hlen : (e_slx args).length ≤ 3) (j : s_w X d K_X0_combines 0 (e_ent0 args 3) [] S (fun r S' => e_rcr (some FieldType.boolean) r = true ∧ Q r S')) : s_c X d 20 args S Q := c_of rM_X0_combines rC_X0_combines rfl (fun _ => by contradiction) hlen j
abbrev r_X0_isWay : e_MT := ((yX0_isWay, 4), (1, false), (622, 620, 85, 621))
abbrev K_X0_isWay : e_KT := (4, false, cX0_isWay, 2, [])
theorem rM_X0_isWay : e_M[21]? = some r_X0_isWay := by rfl
theorem rC_X0_isWay : e_tb 622 = some (Cond.code yX0_isWay cX0_isWay 2 (some FieldType.boolean)) := by decide +kernel
theorem m_X0_isWay {X : e_XT} {d : Nat} {args : List Value} {S : e_SS} {Q : e_Rt → e_SS → Prop} (hlen : (e_slx args).length ≤ 2) (j : s_w X d K_X0_isWay 0 (e_ent0 args 2) [] S (fun r S' => e_rcr (some FieldType.boolean) r = true ∧ Q r S')) : s_c X d 21 args S Q := c_of rM_X0_isWay rC_X0_isWay rfl (fun _ => by contradiction) hlen j
abbrev r_X0_countsAsDrawn : e_MT := ((yX0_countsAsDrawn, 4), (1, false), (626, 624, 85, 625))
abbrev K_X0_countsAsDrawn : e_KT := (4, false, cX0_countsAsDrawn, 3, [])
theorem rM_X0_countsAsDrawn : e_M[22]? = some r_X0_countsAsDrawn := by rfl
theorem rC_X0_countsAsDrawn : e_tb 626 = some (Cond.code yX0_countsAsDrawn cX0_countsAsDrawn 3 (some FieldType.boolean)) := by decide +kernel
theorem m_X0_countsAsDrawn {X : e_XT} {d : Nat} {args : List Value} {S : e_SS} {Q : e_Rt → e_SS → Prop} (hlen : (e_slx args).length ≤ 3) (j : s_w X d K_X0_countsAsDrawn 0 (e_ent0 args 3) [] S (fun r S' => e_rcr (some FieldType.boolean) r = true ∧ Q r S')) : s_c X d 22 args S Q := c_of rM_X0_countsAsDrawn rC_X0_countsAsDrawn rfl (fun _ => by contradiction) hlen j
abbrev r_X0_isSounding : e_MT := ((yX0_isSounding, 4), (1, false), (652, 650, 85, 651))
abbrev K_X0_isSounding : e_KT := (4, false, cX0_isSounding, 3, [])
theorem rM_X0_isSounding : e_M[23]? = some r_X0_isSounding := by rfl
theorem rC_X0_isSounding : e_tb 652 = some (Cond.code yX0_isSounding cX0_isSounding 3 (some FieldType.boolean)) := by decide +kernel
theorem m_X0_isSounding {X : e_XT} {d : Nat} {args : List Value} {S : e_SS} {Q : e_Rt → e_SS → Prop} (hlen : (e_slx args).length ≤ 3) (j : s_w X d K_X0_isSounding 0 (e_ent0 args 3) [] S (fun r S' => e_rcr (some FieldType.boolean) r = true ∧ Q r S')) : s_c X d 23 args S Q := c_of rM_X0_isSounding rC_X0_isSounding rfl (fun _ => by contradiction) hlen j
abbrev r_X0_trembles : e_MT := ((yX0_trembles, 4), (1, false), (728, 726, 85, 727))
abbrev K_X0_trembles : e_KT := (4, false, cX0_trembles, 4, [])
theorem rM_X0_trembles : e_M[24]? = some r_X0_trembles := by rfl
theorem rC_X0_trembles : e_tb 728 = some (Cond.code yX0_trembles cX0_trembles 4 (some FieldType.boolean)) := by decide +kernel
theorem m_X0_trembles {X : e_XT} {d : Nat} {args : List Value} {S : e_SS} {Q : e_Rt → e_SS → Prop} (hlen : (e_slx args).length ≤ 4) (j : s_w X d K_X0_trembles 0 (e_ent0 args 4) [] S (fun r S' => e_rcr (some FieldType.boolean) r = true ∧ Q r S')) : s_c X d 24 args S Q := c_of rM_X0_trembles rC_X0_trembles rfl (fun _ => by contradiction) hlen j
abbrev r_X0_moveTo : e_MT := ((yX0_moveTo, 4), (2, false), (810, 808, 85, 809))
abbrev K_X0_moveTo : e_KT := (4, false, cX0_moveTo, 9, [])
theorem rM_X0_moveTo : e_M[25]? = some r_X0_moveTo := by rfl
theorem rC_X0_moveTo : e_tb 810 = some (Cond.code yX0_moveTo cX0_moveTo 9 (some FieldType.int)) := by decide +kernel
theorem m_X0_moveTo {X : e_XT} {d : Nat} {args : List Value} {S : e_SS} {Q : e_Rt → e_SS → Prop} (hlen : (e_slx args).length ≤ 9) (j : s_w X d K_X0_moveTo 0 (e_ent0 args 9) [] S (fun r S' => e_rcr (some FieldType.int) r = true ∧ Q r S')) : s_c X d 25 args S Q := c_of rM_X0_moveTo rC_X0_moveTo rfl (fun _ => by contradiction) hlen j
abbrev r_X0_waysOf : e_MT := ((yX0_waysOf, 4), (4, false), (834, 832, 85, 833))
abbrev K_X0_waysOf : e_KT := (4, false, cX0_waysOf, 9, [])
theorem rM_X0_waysOf : e_M[26]? = some r_X0_waysOf := by rfl
theorem rC_X0_waysOf : e_tb 834 = some (Cond.code yX0_waysOf cX0_waysOf 9 (some FieldType.int)) := by decide +kernel
theorem m_X0_waysOf {X : e_XT} {d : Nat} {args : List Value} {S : e_SS} {Q : e_Rt → e_SS → Prop} (hlen : (e_slx args).length ≤ 9) (j : s_w X d K_X0_waysOf 0 (e_ent0 args 9) [] S (fun r S' => e_rcr (some FieldType.int) r = true ∧ Q r S')) : s_c X d 26 args S Q := c_of rM_X0_waysOf rC_X0_waysOf rfl (fun _ => by contradiction) hlen j
abbrev r_X0_knobsInScope : e_MT := ((yX0_knobsInScope, 4), (0, false), (1491, 1489, 85, 1490))
abbrev K_X0_knobsInScope : e_KT := (4, false, cX0_knobsInScope, 4, [])
theorem rM_X0_knobsInScope : e_M[27]? = some r_X0_knobsInScope := by rfl
theorem rC_X0_knobsInScope : e_tb 1491 = some (Cond.code yX0_knobsInScope cX0_knobsInScope 4 (some FieldType.long)) := by decide +kernel
theorem m_X0_knobsInScope {X : e_XT} {d : Nat} {args : List Value} {S : e_SS} {Q : e_Rt → e_SS → Prop} (hlen : (e_slx args).length ≤ 4) (j : s_w X d K_X0_knobsInScope 0 (e_ent0 args 4) [] S (fun r S' => e_rcr (some FieldType.long) r = true ∧ Q r S')) : s_c X d 27 args S Q := c_of rM_X0_knobsInScope rC_X0_knobsInScope rfl (fun _ => by contradiction) hlen j
abbrev r_X0_stopsOf : e_MT := ((yX0_stopsOf, 4), (1, false), (1495, 1493, 85, 1494))
abbrev K_X0_stopsOf : e_KT := (4, false, cX0_stopsOf, 6, [])
theorem rM_X0_stopsOf : e_M[28]? = some r_X0_stopsOf := by rfl
theorem rC_X0_stopsOf : e_tb 1495 = some (Cond.code yX0_stopsOf cX0_stopsOf 6 (some FieldType.long)) := by decide +kernel
theorem m_X0_stopsOf {X : e_XT} {d : Nat} {args : List Value} {S : e_SS} {Q : e_Rt → e_SS → Prop} (hlen : (e_slx args).length ≤ 6) (j : s_w X d K_X0_stopsOf 0 (e_ent0 args 6) [] S (fun r S' => e_rcr (some FieldType.long) r = true ∧ Q r S')) : s_c X d 28 args S Q := c_of rM_X0_stopsOf rC_X0_stopsOf rfl (fun _ => by contradiction) hlen j
abbrev r_X0_drawnAmong : e_MT := ((yX0_drawnAmong, 4), (1, false), (1499, 1497, 85, 1498))
abbrev K_X0_drawnAmong : e_KT := (4, false, cX0_drawnAmong, 6, [])
theorem rM_X0_drawnAmong : e_M[29]? = some r_X0_drawnAmong := by rfl
theorem rC_X0_drawnAmong : e_tb 1499 = some (Cond.code yX0_drawnAmong cX0_drawnAmong 6 (some FieldType.long)) := by decide +kernel
theorem m_X0_drawnAmong {X : e_XT} {d : Nat} {args : List Value} {S : e_SS} {Q : e_Rt → e_SS → Prop} (hlen : (e_slx args).length ≤ 6) (j : s_w X d K_X0_drawnAmong 0 (e_ent0 args 6) [] S (fun r S' => e_rcr (some FieldType.long) r = true ∧ Q r S')) : s_c X d 29 args S Q := c_of rM_X0_drawnAmong rC_X0_drawnAmong rfl (fun _ => by contradiction) hlen j
abbrev r_X0_allKnobs : e_MT := ((yX0_allKnobs, 4), (0, false), (1577, 1575, 85, 1576))
abbrev K_X0_allKnobs : e_KT := (4, false, cX0_allKnobs, 1, [])
theorem rM_X0_allKnobs : e_M[30]? = some r_X0_allKnobs := by rfl
theorem rC_X0_allKnobs : e_tb 1577 = some (Cond.code yX0_allKnobs cX0_allKnobs 1 (some FieldType.long)) := by decide +kernel
theorem m_X0_allKnobs {X : e_XT} {d : Nat} {args : List Value} {S : e_SS} {Q : e_Rt → e_SS → Prop} (hlen : (e_slx args).length ≤ 1) (j : s_w X d K_X0_allKnobs 0 (e_ent0 args 1) [] S (fun r S' => e_rcr (some FieldType.long) r = true ∧ Q r S')) : s_c X d 30 args S Q := c_of rM_X0_allKnobs rC_X0_allKnobs rfl (fun _ => by contradiction) hlen j
abbrev r_X0_isSource : e_MT := ((yX0_isSource, 4), (2, true), (1628, 1627, 85, 9999))
abbrev K_X0_isSource : e_KT := (4, false, cX0_isSource, 2, [])
theorem rM_X0_isSource : e_M[31]? = some r_X0_isSource := by rfl
theorem rC_X0_isSource : e_tb 1628 = some (Cond.code yX0_isSource cX0_isSource 2 (some FieldType.boolean)) := by decide +kernel
theorem m_X0_isSource {X : e_XT} {d : Nat} {args : List Value} {S : e_SS} {Q : e_Rt → e_SS → Prop} (hlen : (e_slx args).length ≤ 2) (j : s_w X d K_X0_isSource 0 (e_ent0 args 2) [] S (fun r S' => e_rcr (some FieldType.boolean) r = true ∧ Q r S')) : s_c X d 31 args S Q := c_of rM_X0_isSource rC_X0_isSource rfl (fun _ => by contradiction) hlen j
abbrev r_X0_putWires : e_MT := ((yX0_putWires, 4), (4, false), (1635, 1633, 85, 1634))
abbrev K_X0_putWires : e_KT := (4, false, cX0_putWires, 5, [])
theorem rM_X0_putWires : e_M[32]? = some r_X0_putWires := by rfl
theorem rC_X0_putWires : e_tb 1635 = some (Cond.code yX0_putWires cX0_putWires 5 (none)) := by decide +kernel
theorem m_X0_putWires {X : e_XT} {d : Nat} {args : List Value} {S : e_SS} {Q : e_Rt → e_SS → Prop} (hlen : (e_slx args).length ≤ 5) (j : s_w X d K_X0_putWires 0 (e_ent0 args 5) [] S (fun r S' => e_rcr (none) r = true ∧ Q r S')) : s_c X d 32 args S Q := c_of rM_X0_putWires rC_X0_putWires rfl (fun _ => by contradiction) hlen j
abbrev r_X1_init : e_MT := ((yX1_init, 5), (0, false), (504, 503, 96, 9999))
abbrev K_X1_init : e_KT := (5, true, cX1_init, 1, [])
theorem rM_X1_init : e_M[33]? = some r_X1_init := by rfl
theorem rC_X1_init : e_tb 504 = some (Cond.code yX1_init cX1_init 1 (none)) := by decide +kernel
theorem m_X1_init {X : e_XT} {d : Nat} {args : List Value} {S : e_SS} {Q : e_Rt → e_SS → Prop} (hlen : (e_slx args).length ≤ 1) (j : s_w X d K_X1_init 0 (e_ent0 args 1) [] S (fun r S' => e_rcr (none) r = true ∧ Q r S')) : s_c X d 33 args S Q := c_of rM_X1_init rC_X1_init rfl (fun _ => by rfl) hlen j
abbrev r_X1_begin : e_MT := ((yX1_begin, 5), (2, false), (1709, 1707, 96, 1708))
abbrev K_X1_begin : e_KT := (5, false, cX1_begin, 3, [])
theorem rM_X1_begin : e_M[34]? = some r_X1_begin := by rfl
theorem rC_X1_begin : e_tb 1709 = some (Cond.code yX1_begin cX1_begin 3 (none)) := by decide +kernel
theorem m_X1_begin {X : e_XT} {d : Nat} {args : List Value} {S : e_SS} {Q : e_Rt → e_SS → Prop} (hlen : (e_slx args).length ≤ 3) (j : s_w X d K_X1_begin 0 (e_ent0 args 3) [] S (fun r S' => e_rcr (none) r = true ∧ Q r S')) : s_c X d 34 args S Q := c_of rM_X1_begin rC_X1_begin rfl (fun _ => by contradiction) hlen j
abbrev r_X1_stepsOf : e_MT := ((yX1_stepsOf, 5), (1, true), (1719, 1718, 96, 9999))
abbrev K_X1_stepsOf : e_KT := (5, false, cX1_stepsOf, 1, [])
theorem rM_X1_stepsOf : e_M[35]? = some r_X1_stepsOf := by rfl
theorem rC_X1_stepsOf : e_tb 1719 = some (Cond.code yX1_stepsOf cX1_stepsOf 1 (some (FieldType.array FieldType.int))) := by decide +kernel
theorem m_X1_stepsOf {X : e_XT} {d : Nat} {args : List Value} {S : e_SS} {Q : e_Rt → e_SS → Prop} (hlen : (e_slx args).length ≤ 1) (j : s_w X d K_X1_stepsOf 0 (e_ent0 args 1) [] S (fun r S' => e_rcr (some (FieldType.array FieldType.int)) r = true ∧ Q r S')) : s_c X d 35 args S Q := c_of rM_X1_stepsOf rC_X1_stepsOf rfl (fun _ => by contradiction) hlen j
abbrev r_X1_degreeOf : e_MT := ((yX1_degreeOf, 5), (1, false), (1734, 1732, 96, 1733))
abbrev K_X1_degreeOf : e_KT := (5, false, cX1_degreeOf, 4, [])
theorem rM_X1_degreeOf : e_M[36]? = some r_X1_degreeOf := by rfl
theorem rC_X1_degreeOf : e_tb 1734 = some (Cond.code yX1_degreeOf cX1_degreeOf 4 (some FieldType.int)) := by decide +kernel
theorem m_X1_degreeOf {X : e_XT} {d : Nat} {args : List Value} {S : e_SS} {Q : e_Rt → e_SS → Prop} (hlen : (e_slx args).length ≤ 4) (j : s_w X d K_X1_degreeOf 0 (e_ent0 args 4) [] S (fun r S' => e_rcr (some FieldType.int) r = true ∧ Q r S')) : s_c X d 36 args S Q := c_of rM_X1_degreeOf rC_X1_degreeOf rfl (fun _ => by contradiction) hlen j
abbrev r_X1_choose : e_MT := ((yX1_choose, 5), (2, false), (1743, 1741, 96, 1742))
abbrev K_X1_choose : e_KT := (5, false, cX1_choose, 8, [])
theorem rM_X1_choose : e_M[37]? = some r_X1_choose := by rfl
theorem rC_X1_choose : e_tb 1743 = some (Cond.code yX1_choose cX1_choose 8 (some FieldType.int)) := by decide +kernel
theorem m_X1_choose {X : e_XT} {d : Nat} {args : List Value} {S : e_SS} {Q : e_Rt → e_SS → Prop} (hlen : (e_slx args).length ≤ 8) (j : s_w X d K_X1_choose 0 (e_ent0 args 8) [] S (fun r S' => e_rcr (some FieldType.int) r = true ∧ Q r S')) : s_c X d 37 args S Q := c_of rM_X1_choose rC_X1_choose rfl (fun _ => by contradiction) hlen j
abbrev r_X1_asks : e_MT := ((yX1_asks, 5), (3, false), (1750, 1749, 96, 29))
abbrev K_X1_asks : e_KT := (5, false, cX1_asks, 9, [])
theorem rM_X1_asks : e_M[38]? = some r_X1_asks := by rfl
theorem rC_X1_asks : e_tb 1750 = some (Cond.code yX1_asks cX1_asks 9 (some FieldType.boolean)) := by decide +kernel
theorem m_X1_asks {X : e_XT} {d : Nat} {args : List Value} {S : e_SS} {Q : e_Rt → e_SS → Prop} (hlen : (e_slx args).length ≤ 9) (j : s_w X d K_X1_asks 0 (e_ent0 args 9) [] S (fun r S' => e_rcr (some FieldType.boolean) r = true ∧ Q r S')) : s_c X d 38 args S Q := c_of rM_X1_asks rC_X1_asks rfl (fun _ => by contradiction) hlen j
abbrev r_X1_areApart : e_MT := ((yX1_areApart, 5), (3, true), (1753, 1752, 96, 9999))
abbrev K_X1_areApart : e_KT := (5, false, cX1_areApart, 3, [])
theorem rM_X1_areApart : e_M[39]? = some r_X1_areApart := by rfl
theorem rC_X1_areApart : e_tb 1753 = some (Cond.code yX1_areApart cX1_areApart 3 (some FieldType.boolean)) := by decide +kernel
theorem m_X1_areApart {X : e_XT} {d : Nat} {args : List Value} {S : e_SS} {Q : e_Rt → e_SS → Prop} (hlen : (e_slx args).length ≤ 3) (j : s_w X d K_X1_areApart 0 (e_ent0 args 3) [] S (fun r S' => e_rcr (some FieldType.boolean) r = true ∧ Q r S')) : s_c X d 39 args S Q := c_of rM_X1_areApart rC_X1_areApart rfl (fun _ => by contradiction) hlen j
abbrev r_X1_weigh : e_MT := ((yX1_weigh, 5), (3, false), (1757, 1756, 96, 30))
abbrev K_X1_weigh : e_KT := (5, false, cX1_weigh, 6, [])
theorem rM_X1_weigh : e_M[40]? = some r_X1_weigh := by rfl
theorem rC_X1_weigh : e_tb 1757 = some (Cond.code yX1_weigh cX1_weigh 6 (none)) := by decide +kernel
theorem m_X1_weigh {X : e_XT} {d : Nat} {args : List Value} {S : e_SS} {Q : e_Rt → e_SS → Prop} (hlen : (e_slx args).length ≤ 6) (j : s_w X d K_X1_weigh 0 (e_ent0 args 6) [] S (fun r S' => e_rcr (none) r = true ∧ Q r S')) : s_c X d 40 args S Q := c_of rM_X1_weigh rC_X1_weigh rfl (fun _ => by contradiction) hlen j
abbrev r_X1_badSteps : e_MT := ((yX1_badSteps, 5), (0, false), (1761, 1760, 96, 31))
abbrev K_X1_badSteps : e_KT := (5, false, cX1_badSteps, 4, [])
theorem rM_X1_badSteps : e_M[41]? = some r_X1_badSteps := by rfl
theorem rC_X1_badSteps : e_tb 1761 = some (Cond.code yX1_badSteps cX1_badSteps 4 (some FieldType.int)) := by decide +kernel
theorem m_X1_badSteps {X : e_XT} {d : Nat} {args : List Value} {S : e_SS} {Q : e_Rt → e_SS → Prop} (hlen : (e_slx args).length ≤ 4) (j : s_w X d K_X1_badSteps 0 (e_ent0 args 4) [] S (fun r S' => e_rcr (some FieldType.int) r = true ∧ Q r S')) : s_c X d 41 args S Q := c_of rM_X1_badSteps rC_X1_badSteps rfl (fun _ => by contradiction) hlen j
abbrev r_X1_isBadStep : e_MT := ((yX1_isBadStep, 5), (2, false), (1765, 1764, 96, 32))
abbrev K_X1_isBadStep : e_KT := (5, false, cX1_isBadStep, 7, [])
theorem rM_X1_isBadStep : e_M[42]? = some r_X1_isBadStep := by rfl
theorem rC_X1_isBadStep : e_tb 1765 = some (Cond.code yX1_isBadStep cX1_isBadStep 7 (some FieldType.boolean)) := by decide +kernel
theorem m_X1_isBadStep {X : e_XT} {d : Nat} {args : List Value} {S : e_SS} {Q : e_Rt → e_SS → Prop} (hlen : (e_slx args).length ≤ 7) (j : s_w X d K_X1_isBadStep 0 (e_ent0 args 7) [] S (fun r S' => e_rcr (some FieldType.boolean) r = true ∧ Q r S')) : s_c X d 42 args S Q := c_of rM_X1_isBadStep rC_X1_isBadStep rfl (fun _ => by contradiction) hlen j
abbrev r_X1_way : e_MT := ((yX1_way, 5), (3, false), (1772, 1771, 96, 33))
abbrev K_X1_way : e_KT := (5, false, cX1_way, 4, [])
theorem rM_X1_way : e_M[43]? = some r_X1_way := by rfl
theorem rC_X1_way : e_tb 1772 = some (Cond.code yX1_way cX1_way 4 (some FieldType.int)) := by decide +kernel
theorem m_X1_way {X : e_XT} {d : Nat} {args : List Value} {S : e_SS} {Q : e_Rt → e_SS → Prop} (hlen : (e_slx args).length ≤ 4) (j : s_w X d K_X1_way 0 (e_ent0 args 4) [] S (fun r S' => e_rcr (some FieldType.int) r = true ∧ Q r S')) : s_c X d 43 args S Q := c_of rM_X1_way rC_X1_way rfl (fun _ => by contradiction) hlen j
abbrev r_X1_keyOf : e_MT := ((yX1_keyOf, 5), (1, false), (1776, 1774, 96, 1775))
abbrev K_X1_keyOf : e_KT := (5, false, cX1_keyOf, 2, [])
theorem rM_X1_keyOf : e_M[44]? = some r_X1_keyOf := by rfl
theorem rC_X1_keyOf : e_tb 1776 = some (Cond.code yX1_keyOf cX1_keyOf 2 (some FieldType.int)) := by decide +kernel
theorem m_X1_keyOf {X : e_XT} {d : Nat} {args : List Value} {S : e_SS} {Q : e_Rt → e_SS → Prop} (hlen : (e_slx args).length ≤ 2) (j : s_w X d K_X1_keyOf 0 (e_ent0 args 2) [] S (fun r S' => e_rcr (some FieldType.int) r = true ∧ Q r S')) : s_c X d 44 args S Q := c_of rM_X1_keyOf rC_X1_keyOf rfl (fun _ => by contradiction) hlen j
abbrev r_X1_isOfChord : e_MT := ((yX1_isOfChord, 5), (2, false), (1785, 1783, 96, 1784))
abbrev K_X1_isOfChord : e_KT := (5, false, cX1_isOfChord, 3, [])
theorem rM_X1_isOfChord : e_M[45]? = some r_X1_isOfChord := by rfl
theorem rC_X1_isOfChord : e_tb 1785 = some (Cond.code yX1_isOfChord cX1_isOfChord 3 (some FieldType.boolean)) := by decide +kernel
theorem m_X1_isOfChord {X : e_XT} {d : Nat} {args : List Value} {S : e_SS} {Q : e_Rt → e_SS → Prop} (hlen : (e_slx args).length ≤ 3) (j : s_w X d K_X1_isOfChord 0 (e_ent0 args 3) [] S (fun r S' => e_rcr (some FieldType.boolean) r = true ∧ Q r S')) : s_c X d 45 args S Q := c_of rM_X1_isOfChord rC_X1_isOfChord rfl (fun _ => by contradiction) hlen j
abbrev r_X2_init : e_MT := ((yX2_init, 6), (4, false), (205, 204, 90, 9999))
abbrev K_X2_init : e_KT := (6, true, cX2_init, 5, [])
theorem rM_X2_init : e_M[46]? = some r_X2_init := by rfl
theorem rC_X2_init : e_tb 205 = some (Cond.code yX2_init cX2_init 5 (none)) := by decide +kernel
theorem m_X2_init {X : e_XT} {d : Nat} {args : List Value} {S : e_SS} {Q : e_Rt → e_SS → Prop} (hlen : (e_slx args).length ≤ 5) (j : s_w X d K_X2_init 0 (e_ent0 args 5) [] S (fun r S' => e_rcr (none) r = true ∧ Q r S')) : s_c X d 46 args S Q := c_of rM_X2_init rC_X2_init rfl (fun _ => by rfl) hlen j
abbrev r_X2_takes : e_MT := ((yX2_takes, 6), (3, false), (631, 629, 90, 630))
abbrev K_X2_takes : e_KT := (6, false, cX2_takes, 4, [])
theorem rM_X2_takes : e_M[47]? = some r_X2_takes := by rfl
theorem rC_X2_takes : e_tb 631 = some (Cond.code yX2_takes cX2_takes 4 (some FieldType.boolean)) := by decide +kernel
theorem m_X2_takes {X : e_XT} {d : Nat} {args : List Value} {S : e_SS} {Q : e_Rt → e_SS → Prop} (hlen : (e_slx args).length ≤ 4) (j : s_w X d K_X2_takes 0 (e_ent0 args 4) [] S (fun r S' => e_rcr (some FieldType.boolean) r = true ∧ Q r S')) : s_c X d 47 args S Q := c_of rM_X2_takes rC_X2_takes rfl (fun _ => by contradiction) hlen j
abbrev r_X3_init : e_MT := ((yX3_init, 7), (0, false), (143, 142, 83, 9999))
abbrev K_X3_init : e_KT := (7, true, cX3_init, 1, [])
theorem rM_X3_init : e_M[48]? = some r_X3_init := by rfl
theorem rC_X3_init : e_tb 143 = some (Cond.code yX3_init cX3_init 1 (none)) := by decide +kernel
theorem m_X3_init {X : e_XT} {d : Nat} {args : List Value} {S : e_SS} {Q : e_Rt → e_SS → Prop} (hlen : (e_slx args).length ≤ 1) (j : s_w X d K_X3_init 0 (e_ent0 args 1) [] S (fun r S' => e_rcr (none) r = true ∧ Q r S')) : s_c X d 48 args S Q := c_of rM_X3_init rC_X3_init rfl (fun _ => by rfl) hlen j
abbrev r_X3_isPressed : e_MT := ((yX3_isPressed, 7), (2, false), (574, 572, 83, 573))
abbrev K_X3_isPressed : e_KT := (7, false, cX3_isPressed, 4, [])
theorem rM_X3_isPressed : e_M[49]? = some r_X3_isPressed := by rfl
theorem rC_X3_isPressed : e_tb 574 = some (Cond.code yX3_isPressed cX3_isPressed 4 (some FieldType.boolean)) := by decide +kernel
theorem m_X3_isPressed {X : e_XT} {d : Nat} {args : List Value} {S : e_SS} {Q : e_Rt → e_SS → Prop} (hlen : (e_slx args).length ≤ 4) (j : s_w X d K_X3_isPressed 0 (e_ent0 args 4) [] S (fun r S' => e_rcr (some FieldType.boolean) r = true ∧ Q r S')) : s_c X d 49 args S Q := c_of rM_X3_isPressed rC_X3_isPressed rfl (fun _ => by contradiction) hlen j
abbrev r_X3_indexOf : e_MT := ((yX3_indexOf, 7), (2, true), (577, 576, 83, 9999))
abbrev K_X3_indexOf : e_KT := (7, false, cX3_indexOf, 2, [])
theorem rM_X3_indexOf : e_M[50]? = some r_X3_indexOf := by rfl
theorem rC_X3_indexOf : e_tb 577 = some (Cond.code yX3_indexOf cX3_indexOf 2 (some FieldType.int)) := by decide +kernel
theorem m_X3_indexOf {X : e_XT} {d : Nat} {args : List Value} {S : e_SS} {Q : e_Rt → e_SS → Prop} (hlen : (e_slx args).length ≤ 2) (j : s_w X d K_X3_indexOf 0 (e_ent0 args 2) [] S (fun r S' => e_rcr (some FieldType.int) r = true ∧ Q r S')) : s_c X d 50 args S Q := c_of rM_X3_indexOf rC_X3_indexOf rfl (fun _ => by contradiction) hlen j
abbrev r_X3_isAnyPressed : e_MT := ((yX3_isAnyPressed, 7), (0, false), (613, 611, 83, 612))
abbrev K_X3_isAnyPressed : e_KT := (7, false, cX3_isAnyPressed, 1, [])
theorem rM_X3_isAnyPressed : e_M[51]? = some r_X3_isAnyPressed := by rfl
theorem rC_X3_isAnyPressed : e_tb 613 = some (Cond.code yX3_isAnyPressed cX3_isAnyPressed 1 (some FieldType.boolean)) := by decide +kernel
theorem m_X3_isAnyPressed {X : e_XT} {d : Nat} {args : List Value} {S : e_SS} {Q : e_Rt → e_SS → Prop} (hlen : (e_slx args).length ≤ 1) (j : s_w X d K_X3_isAnyPressed 0 (e_ent0 args 1) [] S (fun r S' => e_rcr (some FieldType.boolean) r = true ∧ Q r S')) : s_c X d 51 args S Q := c_of rM_X3_isAnyPressed rC_X3_isAnyPressed rfl (fun _ => by contradiction) hlen j
abbrev r_X3_highestOf : e_MT := ((yX3_highestOf, 7), (1, false), (636, 634, 83, 635))
abbrev K_X3_highestOf : e_KT := (7, false, cX3_highestOf, 2, [])
theorem rM_X3_highestOf : e_M[52]? = some r_X3_highestOf := by rfl
theorem rC_X3_highestOf : e_tb 636 = some (Cond.code yX3_highestOf cX3_highestOf 2 (some FieldType.int)) := by decide +kernel
theorem m_X3_highestOf {X : e_XT} {d : Nat} {args : List Value} {S : e_SS} {Q : e_Rt → e_SS → Prop} (hlen : (e_slx args).length ≤ 2) (j : s_w X d K_X3_highestOf 0 (e_ent0 args 2) [] S (fun r S' => e_rcr (some FieldType.int) r = true ∧ Q r S')) : s_c X d 52 args S Q := c_of rM_X3_highestOf rC_X3_highestOf rfl (fun _ => by contradiction) hlen j
abbrev r_X3_lowestOf : e_MT := ((yX3_lowestOf, 7), (1, false), (640, 638, 83, 639))
abbrev K_X3_lowestOf : e_KT := (7, false, cX3_lowestOf, 2, [])
theorem rM_X3_lowestOf : e_M[53]? = some r_X3_lowestOf := by rfl
theorem rC_X3_lowestOf : e_tb 640 = some (Cond.code yX3_lowestOf cX3_lowestOf 2 (some FieldType.int)) := by decide +kernel
theorem m_X3_lowestOf {X : e_XT} {d : Nat} {args : List Value} {S : e_SS} {Q : e_Rt → e_SS → Prop} (hlen : (e_slx args).length ≤ 2) (j : s_w X d K_X3_lowestOf 0 (e_ent0 args 2) [] S (fun r S' => e_rcr (some FieldType.int) r = true ∧ Q r S')) : s_c X d 53 args S Q := c_of rM_X3_lowestOf rC_X3_lowestOf rfl (fun _ => by contradiction) hlen j
abbrev r_X3_tickOf : e_MT := ((yX3_tickOf, 7), (2, false), (644, 642, 83, 643))
abbrev K_X3_tickOf : e_KT := (7, false, cX3_tickOf, 4, [])
theorem rM_X3_tickOf : e_M[54]? = some r_X3_tickOf := by rfl
theorem rC_X3_tickOf : e_tb 644 = some (Cond.code yX3_tickOf cX3_tickOf 4 (some FieldType.int)) := by decide +kernel
theorem m_X3_tickOf {X : e_XT} {d : Nat} {args : List Value} {S : e_SS} {Q : e_Rt → e_SS → Prop} (hlen : (e_slx args).length ≤ 4) (j : s_w X d K_X3_tickOf 0 (e_ent0 args 4) [] S (fun r S' => e_rcr (some FieldType.int) r = true ∧ Q r S')) : s_c X d 54 args S Q := c_of rM_X3_tickOf rC_X3_tickOf rfl (fun _ => by contradiction) hlen j
abbrev r_X3_countOf : e_MT := ((yX3_countOf, 7), (1, true), (659, 658, 83, 9999))
abbrev K_X3_countOf : e_KT := (7, false, cX3_countOf, 1, [])
theorem rM_X3_countOf : e_M[55]? = some r_X3_countOf := by rfl
theorem rC_X3_countOf : e_tb 659 = some (Cond.code yX3_countOf cX3_countOf 1 (some FieldType.int)) := by decide +kernel
theorem m_X3_countOf {X : e_XT} {d : Nat} {args : List Value} {S : e_SS} {Q : e_Rt → e_SS → Prop} (hlen : (e_slx args).length ≤ 1) (j : s_w X d K_X3_countOf 0 (e_ent0 args 1) [] S (fun r S' => e_rcr (some FieldType.int) r = true ∧ Q r S')) : s_c X d 55 args S Q := c_of rM_X3_countOf rC_X3_countOf rfl (fun _ => by contradiction) hlen j
abbrev r_X3_put : e_MT := ((yX3_put, 7), (4, false), (749, 747, 83, 748))
abbrev K_X3_put : e_KT := (7, false, cX3_put, 6, [])
theorem rM_X3_put : e_M[56]? = some r_X3_put := by rfl
theorem rC_X3_put : e_tb 749 = some (Cond.code yX3_put cX3_put 6 (some FieldType.boolean)) := by decide +kernel
theorem m_X3_put {X : e_XT} {d : Nat} {args : List Value} {S : e_SS} {Q : e_Rt → e_SS → Prop} (hlen : (e_slx args).length ≤ 6) (j : s_w X d K_X3_put 0 (e_ent0 args 6) [] S (fun r S' => e_rcr (some FieldType.boolean) r = true ∧ Q r S')) : s_c X d 56 args S Q := c_of rM_X3_put rC_X3_put rfl (fun _ => by contradiction) hlen j
abbrev r_X3_firstPressed : e_MT := ((yX3_firstPressed, 7), (3, false), (753, 752, 83, 14))
abbrev K_X3_firstPressed : e_KT := (7, false, cX3_firstPressed, 6, [])
theorem rM_X3_firstPressed : e_M[57]? = some r_X3_firstPressed := by rfl
theorem rC_X3_firstPressed : e_tb 753 = some (Cond.code yX3_firstPressed cX3_firstPressed 6 (some FieldType.int)) := by decide +kernel
theorem m_X3_firstPressed {X : e_XT} {d : Nat} {args : List Value} {S : e_SS} {Q : e_Rt → e_SS → Prop} (hlen : (e_slx args).length ≤ 6) (j : s_w X d K_X3_firstPressed 0 (e_ent0 args 6) [] S (fun r S' => e_rcr (some FieldType.int) r = true ∧ Q r S')) : s_c X d 57 args S Q := c_of rM_X3_firstPressed rC_X3_firstPressed rfl (fun _ => by contradiction) hlen j
abbrev r_X4_init : e_MT := ((yX4_init, 8), (4, false), (227, 226, 89, 9999))
abbrev K_X4_init : e_KT := (8, true, cX4_init, 5, [])
theorem rM_X4_init : e_M[58]? = some r_X4_init := by rfl
theorem rC_X4_init : e_tb 227 = some (Cond.code yX4_init cX4_init 5 (none)) := by decide +kernel
theorem m_X4_init {X : e_XT} {d : Nat} {args : List Value} {S : e_SS} {Q : e_Rt → e_SS → Prop} (hlen : (e_slx args).length ≤ 5) (j : s_w X d K_X4_init 0 (e_ent0 args 5) [] S (fun r S' => e_rcr (none) r = true ∧ Q r S')) : s_c X d 58 args S Q := c_of rM_X4_init rC_X4_init rfl (fun _ => by rfl) hlen j
abbrev r_X5_init : e_MT := ((yX5_init, 9), (0, false), (462, 461, 95, 9999))
abbrev K_X5_init : e_KT := (9, true, cX5_init, 1, [])
theorem rM_X5_init : e_M[59]? = some r_X5_init := by rfl
theorem rC_X5_init : e_tb 462 = some (Cond.code yX5_init cX5_init 1 (none)) := by decide +kernel
theorem m_X5_init {X : e_XT} {d : Nat} {args : List Value} {S : e_SS} {Q : e_Rt → e_SS → Prop} (hlen : (e_slx args).length ≤ 1) (j : s_w X d K_X5_init 0 (e_ent0 args 1) [] S (fun r S' => e_rcr (none) r = true ∧ Q r S')) : s_c X d 59 args S Q := c_of rM_X5_init rC_X5_init rfl (fun _ => by rfl) hlen j
abbrev r_X5_placeOf : e_MT := ((yX5_placeOf, 9), (2, true), (783, 782, 95, 9999))
abbrev K_X5_placeOf : e_KT := (9, false, cX5_placeOf, 3, [])
theorem rM_X5_placeOf : e_M[60]? = some r_X5_placeOf := by rfl
theorem rC_X5_placeOf : e_tb 783 = some (Cond.code yX5_placeOf cX5_placeOf 3 (some FieldType.int)) := by decide +kernel
theorem m_X5_placeOf {X : e_XT} {d : Nat} {args : List Value} {S : e_SS} {Q : e_Rt → e_SS → Prop} (hlen : (e_slx args).length ≤ 3) (j : s_w X d K_X5_placeOf 0 (e_ent0 args 3) [] S (fun r S' => e_rcr (some FieldType.int) r = true ∧ Q r S')) : s_c X d 60 args S Q := c_of rM_X5_placeOf rC_X5_placeOf rfl (fun _ => by contradiction) hlen j
abbrev r_X5_isKept : e_MT := ((yX5_isKept, 9), (1, false), (790, 788, 95, 789))
abbrev K_X5_isKept : e_KT := (9, false, cX5_isKept, 3, [])
theorem rM_X5_isKept : e_M[61]? = some r_X5_isKept := by rfl
theorem rC_X5_isKept : e_tb 790 = some (Cond.code yX5_isKept cX5_isKept 3 (some FieldType.boolean)) := by decide +kernel
theorem m_X5_isKept {X : e_XT} {d : Nat} {args : List Value} {S : e_SS} {Q : e_Rt → e_SS → Prop} (hlen : (e_slx args).length ≤ 3) (j : s_w X d K_X5_isKept 0 (e_ent0 args 3) [] S (fun r S' => e_rcr (some FieldType.boolean) r = true ∧ Q r S')) : s_c X d 61 args S Q := c_of rM_X5_isKept rC_X5_isKept rfl (fun _ => by contradiction) hlen j
abbrev r_X5_indexOf : e_MT := ((yX5_indexOf, 9), (1, false), (794, 793, 95, 15))
abbrev K_X5_indexOf : e_KT := (9, false, cX5_indexOf, 2, [])
theorem rM_X5_indexOf : e_M[62]? = some r_X5_indexOf := by rfl
theorem rC_X5_indexOf : e_tb 794 = some (Cond.code yX5_indexOf cX5_indexOf 2 (some FieldType.int)) := by decide +kernel
theorem m_X5_indexOf {X : e_XT} {d : Nat} {args : List Value} {S : e_SS} {Q : e_Rt → e_SS → Prop} (hlen : (e_slx args).length ≤ 2) (j : s_w X d K_X5_indexOf 0 (e_ent0 args 2) [] S (fun r S' => e_rcr (some FieldType.int) r = true ∧ Q r S')) : s_c X d 62 args S Q := c_of rM_X5_indexOf rC_X5_indexOf rfl (fun _ => by contradiction) hlen j
abbrev r_X5_keptBy : e_MT := ((yX5_keptBy, 9), (1, false), (798, 796, 95, 797))
abbrev K_X5_keptBy : e_KT := (9, false, cX5_keptBy, 3, [])
theorem rM_X5_keptBy : e_M[63]? = some r_X5_keptBy := by rfl
theorem rC_X5_keptBy : e_tb 798 = some (Cond.code yX5_keptBy cX5_keptBy 3 (some FieldType.long)) := by decide +kernel
theorem m_X5_keptBy {X : e_XT} {d : Nat} {args : List Value} {S : e_SS} {Q : e_Rt → e_SS → Prop} (hlen : (e_slx args).length ≤ 3) (j : s_w X d K_X5_keptBy 0 (e_ent0 args 3) [] S (fun r S' => e_rcr (some FieldType.long) r = true ∧ Q r S')) : s_c X d 63 args S Q := c_of rM_X5_keptBy rC_X5_keptBy rfl (fun _ => by contradiction) hlen j
abbrev r_X5_drawnBy : e_MT := ((yX5_drawnBy, 9), (1, false), (802, 800, 95, 801))
abbrev K_X5_drawnBy : e_KT := (9, false, cX5_drawnBy, 3, [])
theorem rM_X5_drawnBy : e_M[64]? = some r_X5_drawnBy := by rfl
theorem rC_X5_drawnBy : e_tb 802 = some (Cond.code yX5_drawnBy cX5_drawnBy 3 (some FieldType.long)) := by decide +kernel
theorem m_X5_drawnBy {X : e_XT} {d : Nat} {args : List Value} {S : e_SS} {Q : e_Rt → e_SS → Prop} (hlen : (e_slx args).length ≤ 3) (j : s_w X d K_X5_drawnBy 0 (e_ent0 args 3) [] S (fun r S' => e_rcr (some FieldType.long) r = true ∧ Q r S')) : s_c X d 64 args S Q := c_of rM_X5_drawnBy rC_X5_drawnBy rfl (fun _ => by contradiction) hlen j
abbrev r_X5_changeGuest : e_MT := ((yX5_changeGuest, 9), (1, false), (1433, 1431, 95, 1432))
abbrev K_X5_changeGuest : e_KT := (9, false, cX5_changeGuest, 3, [])
theorem rM_X5_changeGuest : e_M[65]? = some r_X5_changeGuest := by rfl
theorem rC_X5_changeGuest : e_tb 1433 = some (Cond.code yX5_changeGuest cX5_changeGuest 3 (some FieldType.int)) := by decide +kernel
theorem m_X5_changeGuest {X : e_XT} {d : Nat} {args : List Value} {S : e_SS} {Q : e_Rt → e_SS → Prop} (hlen : (e_slx args).length ≤ 3) (j : s_w X d K_X5_changeGuest 0 (e_ent0 args 3) [] S (fun r S' => e_rcr (some FieldType.int) r = true ∧ Q r S')) : s_c X d 65 args S Q := c_of rM_X5_changeGuest rC_X5_changeGuest rfl (fun _ => by contradiction) hlen j
abbrev r_X5_isClaimedByAnother : e_MT := ((yX5_isClaimedByAnother, 9), (0, false), (1448, 1446, 95, 1447))
abbrev K_X5_isClaimedByAnother : e_KT := (9, false, cX5_isClaimedByAnother, 1, [])
theorem rM_X5_isClaimedByAnother : e_M[66]? = some r_X5_isClaimedByAnother := by rfl
theorem rC_X5_isClaimedByAnother : e_tb 1448 = some (Cond.code yX5_isClaimedByAnother cX5_isClaimedByAnother 1 (some FieldType.boolean)) := by decide +kernel
theorem m_X5_isClaimedByAnother {X : e_XT} {d : Nat} {args : List Value} {S : e_SS} {Q : e_Rt → e_SS → Prop} (hlen : (e_slx args).length ≤ 1) (j : s_w X d K_X5_isClaimedByAnother 0 (e_ent0 args 1) [] S (fun r S' => e_rcr (some FieldType.boolean) r = true ∧ Q r S')) : s_c X d 66 args S Q := c_of rM_X5_isClaimedByAnother rC_X5_isClaimedByAnother rfl (fun _ => by contradiction) hlen j
abbrev r_X5_isClaimed : e_MT := ((yX5_isClaimed, 9), (0, false), (1452, 1450, 95, 1451))
abbrev K_X5_isClaimed : e_KT := (9, false, cX5_isClaimed, 1, [])
theorem rM_X5_isClaimed : e_M[67]? = some r_X5_isClaimed := by rfl
theorem rC_X5_isClaimed : e_tb 1452 = some (Cond.code yX5_isClaimed cX5_isClaimed 1 (some FieldType.boolean)) := by decide +kernel
theorem m_X5_isClaimed {X : e_XT} {d : Nat} {args : List Value} {S : e_SS} {Q : e_Rt → e_SS → Prop} (hlen : (e_slx args).length ≤ 1) (j : s_w X d K_X5_isClaimed 0 (e_ent0 args 1) [] S (fun r S' => e_rcr (some FieldType.boolean) r = true ∧ Q r S')) : s_c X d 67 args S Q := c_of rM_X5_isClaimed rC_X5_isClaimed rfl (fun _ => by contradiction) hlen j
abbrev r_X5_putClaim : e_MT := ((yX5_putClaim, 9), (1, false), (1458, 1456, 95, 1457))
abbrev K_X5_putClaim : e_KT := (9, false, cX5_putClaim, 2, [])
theorem rM_X5_putClaim : e_M[68]? = some r_X5_putClaim := by rfl
theorem rC_X5_putClaim : e_tb 1458 = some (Cond.code yX5_putClaim cX5_putClaim 2 (none)) := by decide +kernel
theorem m_X5_putClaim {X : e_XT} {d : Nat} {args : List Value} {S : e_SS} {Q : e_Rt → e_SS → Prop} (hlen : (e_slx args).length ≤ 2) (j : s_w X d K_X5_putClaim 0 (e_ent0 args 2) [] S (fun r S' => e_rcr (none) r = true ∧ Q r S')) : s_c X d 68 args S Q := c_of rM_X5_putClaim rC_X5_putClaim rfl (fun _ => by contradiction) hlen j
abbrev r_X5_changeLevel : e_MT := ((yX5_changeLevel, 9), (1, false), (1469, 1467, 95, 1468))
abbrev K_X5_changeLevel : e_KT := (9, false, cX5_changeLevel, 3, [])
theorem rM_X5_changeLevel : e_M[69]? = some r_X5_changeLevel := by rfl
theorem rC_X5_changeLevel : e_tb 1469 = some (Cond.code yX5_changeLevel cX5_changeLevel 3 (some FieldType.int)) := by decide +kernel
theorem m_X5_changeLevel {X : e_XT} {d : Nat} {args : List Value} {S : e_SS} {Q : e_Rt → e_SS → Prop} (hlen : (e_slx args).length ≤ 3) (j : s_w X d K_X5_changeLevel 0 (e_ent0 args 3) [] S (fun r S' => e_rcr (some FieldType.int) r = true ∧ Q r S')) : s_c X d 69 args S Q := c_of rM_X5_changeLevel rC_X5_changeLevel rfl (fun _ => by contradiction) hlen j
abbrev r_X5_keep : e_MT := ((yX5_keep, 9), (3, false), (1503, 1501, 95, 1502))
abbrev K_X5_keep : e_KT := (9, false, cX5_keep, 7, [])
theorem rM_X5_keep : e_M[70]? = some r_X5_keep := by rfl
theorem rC_X5_keep : e_tb 1503 = some (Cond.code yX5_keep cX5_keep 7 (none)) := by decide +kernel
theorem m_X5_keep {X : e_XT} {d : Nat} {args : List Value} {S : e_SS} {Q : e_Rt → e_SS → Prop} (hlen : (e_slx args).length ≤ 7) (j : s_w X d K_X5_keep 0 (e_ent0 args 7) [] S (fun r S' => e_rcr (none) r = true ∧ Q r S')) : s_c X d 70 args S Q := c_of rM_X5_keep rC_X5_keep rfl (fun _ => by contradiction) hlen j
abbrev r_X5_reversibleKnob : e_MT := ((yX5_reversibleKnob, 9), (1, false), (1548, 1546, 95, 1547))
abbrev K_X5_reversibleKnob : e_KT := (9, false, cX5_reversibleKnob, 3, [])
theorem rM_X5_reversibleKnob : e_M[71]? = some r_X5_reversibleKnob := by rfl
theorem rC_X5_reversibleKnob : e_tb 1548 = some (Cond.code yX5_reversibleKnob cX5_reversibleKnob 3 (some FieldType.int)) := by decide +kernel
theorem m_X5_reversibleKnob {X : e_XT} {d : Nat} {args : List Value} {S : e_SS} {Q : e_Rt → e_SS → Prop} (hlen : (e_slx args).length ≤ 3) (j : s_w X d K_X5_reversibleKnob 0 (e_ent0 args 3) [] S (fun r S' => e_rcr (some FieldType.int) r = true ∧ Q r S')) : s_c X d 71 args S Q := c_of rM_X5_reversibleKnob rC_X5_reversibleKnob rfl (fun _ => by contradiction) hlen j
abbrev r_X5_keepReversible : e_MT := ((yX5_keepReversible, 9), (2, false), (1552, 1550, 95, 1551))
abbrev K_X5_keepReversible : e_KT := (9, false, cX5_keepReversible, 3, [])
theorem rM_X5_keepReversible : e_M[72]? = some r_X5_keepReversible := by rfl
theorem rC_X5_keepReversible : e_tb 1552 = some (Cond.code yX5_keepReversible cX5_keepReversible 3 (none)) := by decide +kernel
theorem m_X5_keepReversible {X : e_XT} {d : Nat} {args : List Value} {S : e_SS} {Q : e_Rt → e_SS → Prop} (hlen : (e_slx args).length ≤ 3) (j : s_w X d K_X5_keepReversible 0 (e_ent0 args 3) [] S (fun r S' => e_rcr (none) r = true ∧ Q r S')) : s_c X d 72 args S Q := c_of rM_X5_keepReversible rC_X5_keepReversible rfl (fun _ => by contradiction) hlen j
abbrev r_X5_frames : e_MT := ((yX5_frames, 9), (0, false), (1571, 1569, 95, 1570))
abbrev K_X5_frames : e_KT := (9, false, cX5_frames, 1, [])
theorem rM_X5_frames : e_M[73]? = some r_X5_frames := by rfl
theorem rC_X5_frames : e_tb 1571 = some (Cond.code yX5_frames cX5_frames 1 (some FieldType.int)) := by decide +kernel
theorem m_X5_frames {X : e_XT} {d : Nat} {args : List Value} {S : e_SS} {Q : e_Rt → e_SS → Prop} (hlen : (e_slx args).length ≤ 1) (j : s_w X d K_X5_frames 0 (e_ent0 args 1) [] S (fun r S' => e_rcr (some FieldType.int) r = true ∧ Q r S')) : s_c X d 73 args S Q := c_of rM_X5_frames rC_X5_frames rfl (fun _ => by contradiction) hlen j
abbrev r_X5_insertFrame : e_MT := ((yX5_insertFrame, 9), (3, false), (1581, 1579, 95, 1580))
abbrev K_X5_insertFrame : e_KT := (9, false, cX5_insertFrame, 8, [])
theorem rM_X5_insertFrame : e_M[74]? = some r_X5_insertFrame := by rfl
theorem rC_X5_insertFrame : e_tb 1581 = some (Cond.code yX5_insertFrame cX5_insertFrame 8 (none)) := by decide +kernel
theorem m_X5_insertFrame {X : e_XT} {d : Nat} {args : List Value} {S : e_SS} {Q : e_Rt → e_SS → Prop} (hlen : (e_slx args).length ≤ 8) (j : s_w X d K_X5_insertFrame 0 (e_ent0 args 8) [] S (fun r S' => e_rcr (none) r = true ∧ Q r S')) : s_c X d 74 args S Q := c_of rM_X5_insertFrame rC_X5_insertFrame rfl (fun _ => by contradiction) hlen j
abbrev r_X5_removeFrame : e_MT := ((yX5_removeFrame, 9), (1, false), (1599, 1597, 95, 1598))
abbrev K_X5_removeFrame : e_KT := (9, false, cX5_removeFrame, 4, [])
theorem rM_X5_removeFrame : e_M[75]? = some r_X5_removeFrame := by rfl
theorem rC_X5_removeFrame : e_tb 1599 = some (Cond.code yX5_removeFrame cX5_removeFrame 4 (none)) := by decide +kernel
theorem m_X5_removeFrame {X : e_XT} {d : Nat} {args : List Value} {S : e_SS} {Q : e_Rt → e_SS → Prop} (hlen : (e_slx args).length ≤ 4) (j : s_w X d K_X5_removeFrame 0 (e_ent0 args 4) [] S (fun r S' => e_rcr (none) r = true ∧ Q r S')) : s_c X d 75 args S Q := c_of rM_X5_removeFrame rC_X5_removeFrame rfl (fun _ => by contradiction) hlen j
abbrev r_X5_keptByFrame : e_MT := ((yX5_keptByFrame, 9), (1, false), (1610, 1608, 95, 1609))
abbrev K_X5_keptByFrame : e_KT := (9, false, cX5_keptByFrame, 2, [])
theorem rM_X5_keptByFrame : e_M[76]? = some r_X5_keptByFrame := by rfl
theorem rC_X5_keptByFrame : e_tb 1610 = some (Cond.code yX5_keptByFrame cX5_keptByFrame 2 (some FieldType.long)) := by decide +kernel
theorem m_X5_keptByFrame {X : e_XT} {d : Nat} {args : List Value} {S : e_SS} {Q : e_Rt → e_SS → Prop} (hlen : (e_slx args).length ≤ 2) (j : s_w X d K_X5_keptByFrame 0 (e_ent0 args 2) [] S (fun r S' => e_rcr (some FieldType.long) r = true ∧ Q r S')) : s_c X d 76 args S Q := c_of rM_X5_keptByFrame rC_X5_keptByFrame rfl (fun _ => by contradiction) hlen j
abbrev r_X5_drawnByFrame : e_MT := ((yX5_drawnByFrame, 9), (1, false), (1614, 1612, 95, 1613))
abbrev K_X5_drawnByFrame : e_KT := (9, false, cX5_drawnByFrame, 2, [])
theorem rM_X5_drawnByFrame : e_M[77]? = some r_X5_drawnByFrame := by rfl
theorem rC_X5_drawnByFrame : e_tb 1614 = some (Cond.code yX5_drawnByFrame cX5_drawnByFrame 2 (some FieldType.long)) := by decide +kernel
theorem m_X5_drawnByFrame {X : e_XT} {d : Nat} {args : List Value} {S : e_SS} {Q : e_Rt → e_SS → Prop} (hlen : (e_slx args).length ≤ 2) (j : s_w X d K_X5_drawnByFrame 0 (e_ent0 args 2) [] S (fun r S' => e_rcr (some FieldType.long) r = true ∧ Q r S')) : s_c X d 77 args S Q := c_of rM_X5_drawnByFrame rC_X5_drawnByFrame rfl (fun _ => by contradiction) hlen j
abbrev r_X6_allReasons : e_MT := ((yX6_allReasons, 10), (0, false), (692, 690, 106, 691))
abbrev K_X6_allReasons : e_KT := (10, false, cX6_allReasons, 1, [])
theorem rM_X6_allReasons : e_M[78]? = some r_X6_allReasons := by rfl
theorem rC_X6_allReasons : e_tb 692 = some (Cond.code yX6_allReasons cX6_allReasons 1 (some FieldType.int)) := by decide +kernel
theorem m_X6_allReasons {X : e_XT} {d : Nat} {args : List Value} {S : e_SS} {Q : e_Rt → e_SS → Prop} (hlen : (e_slx args).length ≤ 1) (j : s_w X d K_X6_allReasons 0 (e_ent0 args 1) [] S (fun r S' => e_rcr (some FieldType.int) r = true ∧ Q r S')) : s_c X d 78 args S Q := c_of rM_X6_allReasons rC_X6_allReasons rfl (fun _ => by contradiction) hlen j
abbrev r_X6_movePallet : e_MT := ((yX6_movePallet, 10), (3, false), (715, 713, 106, 714))
abbrev K_X6_movePallet : e_KT := (10, false, cX6_movePallet, 4, [])
theorem rM_X6_movePallet : e_M[79]? = some r_X6_movePallet := by rfl
theorem rC_X6_movePallet : e_tb 715 = some (Cond.code yX6_movePallet cX6_movePallet 4 (none)) := by decide +kernel
theorem m_X6_movePallet {X : e_XT} {d : Nat} {args : List Value} {S : e_SS} {Q : e_Rt → e_SS → Prop} (hlen : (e_slx args).length ≤ 4) (j : s_w X d K_X6_movePallet 0 (e_ent0 args 4) [] S (fun r S' => e_rcr (none) r = true ∧ Q r S')) : s_c X d 79 args S Q := c_of rM_X6_movePallet rC_X6_movePallet rfl (fun _ => by contradiction) hlen j
abbrev r_X6_isBlown : e_MT := ((yX6_isBlown, 10), (0, false), (719, 717, 106, 718))
abbrev K_X6_isBlown : e_KT := (10, false, cX6_isBlown, 1, [])
theorem rM_X6_isBlown : e_M[80]? = some r_X6_isBlown := by rfl
theorem rC_X6_isBlown : e_tb 719 = some (Cond.code yX6_isBlown cX6_isBlown 1 (some FieldType.boolean)) := by decide +kernel
theorem m_X6_isBlown {X : e_XT} {d : Nat} {args : List Value} {S : e_SS} {Q : e_Rt → e_SS → Prop} (hlen : (e_slx args).length ≤ 1) (j : s_w X d K_X6_isBlown 0 (e_ent0 args 1) [] S (fun r S' => e_rcr (some FieldType.boolean) r = true ∧ Q r S')) : s_c X d 80 args S Q := c_of rM_X6_isBlown rC_X6_isBlown rfl (fun _ => by contradiction) hlen j
abbrev r_X6_init : e_MT := ((yX6_init, 10), (0, false), (952, 951, 106, 9999))
abbrev K_X6_init : e_KT := (10, true, cX6_init, 1, [])
theorem rM_X6_init : e_M[81]? = some r_X6_init := by rfl
theorem rC_X6_init : e_tb 952 = some (Cond.code yX6_init cX6_init 1 (none)) := by decide +kernel
theorem m_X6_init {X : e_XT} {d : Nat} {args : List Value} {S : e_SS} {Q : e_Rt → e_SS → Prop} (hlen : (e_slx args).length ≤ 1) (j : s_w X d K_X6_init 0 (e_ent0 args 1) [] S (fun r S' => e_rcr (none) r = true ∧ Q r S')) : s_c X d 81 args S Q := c_of rM_X6_init rC_X6_init rfl (fun _ => by rfl) hlen j
abbrev r_X7_pipeOf : e_MT := ((yX7_pipeOf, 11), (1, false), (684, 682, 105, 683))
abbrev K_X7_pipeOf : e_KT := (11, false, cX7_pipeOf, 2, [])
theorem rM_X7_pipeOf : e_M[82]? = some r_X7_pipeOf := by rfl
theorem rC_X7_pipeOf : e_tb 684 = some (Cond.code yX7_pipeOf cX7_pipeOf 2 (some (FieldType.object "Rankhall$Pipe"))) := by decide +kernel
theorem m_X7_pipeOf {X : e_XT} {d : Nat} {args : List Value} {S : e_SS} {Q : e_Rt → e_SS → Prop} (hlen : (e_slx args).length ≤ 2) (j : s_w X d K_X7_pipeOf 0 (e_ent0 args 2) [] S (fun r S' => e_rcr (some (FieldType.object "Rankhall$Pipe")) r = true ∧ Q r S')) : s_c X d 82 args S Q := c_of rM_X7_pipeOf rC_X7_pipeOf rfl (fun _ => by contradiction) hlen j
abbrev r_X7_init : e_MT := ((yX7_init, 11), (3, false), (942, 941, 105, 9999))
abbrev K_X7_init : e_KT := (11, true, cX7_init, 6, [])
theorem rM_X7_init : e_M[83]? = some r_X7_init := by rfl
theorem rC_X7_init : e_tb 942 = some (Cond.code yX7_init cX7_init 6 (none)) := by decide +kernel
theorem m_X7_init {X : e_XT} {d : Nat} {args : List Value} {S : e_SS} {Q : e_Rt → e_SS → Prop} (hlen : (e_slx args).length ≤ 6) (j : s_w X d K_X7_init 0 (e_ent0 args 6) [] S (fun r S' => e_rcr (none) r = true ∧ Q r S')) : s_c X d 83 args S Q := c_of rM_X7_init rC_X7_init rfl (fun _ => by rfl) hlen j
abbrev r_X7_trials : e_MT := ((yX7_trials, 11), (0, false), (1416, 1414, 105, 1415))
abbrev K_X7_trials : e_KT := (11, false, cX7_trials, 2, [])
theorem rM_X7_trials : e_M[84]? = some r_X7_trials := by rfl
theorem rC_X7_trials : e_tb 1416 = some (Cond.code yX7_trials cX7_trials 2 (some FieldType.int)) := by decide +kernel
theorem m_X7_trials {X : e_XT} {d : Nat} {args : List Value} {S : e_SS} {Q : e_Rt → e_SS → Prop} (hlen : (e_slx args).length ≤ 2) (j : s_w X d K_X7_trials 0 (e_ent0 args 2) [] S (fun r S' => e_rcr (some FieldType.int) r = true ∧ Q r S')) : s_c X d 84 args S Q := c_of rM_X7_trials rC_X7_trials rfl (fun _ => by contradiction) hlen j
abbrev r_X7_hasFault : e_MT := ((yX7_hasFault, 11), (3, true), (1419, 1418, 105, 9999))
abbrev K_X7_hasFault : e_KT := (11, false, cX7_hasFault, 4, [])
theorem rM_X7_hasFault : e_M[85]? = some r_X7_hasFault := by rfl
theorem rC_X7_hasFault : e_tb 1419 = some (Cond.code yX7_hasFault cX7_hasFault 4 (some FieldType.boolean)) := by decide +kernel
theorem m_X7_hasFault {X : e_XT} {d : Nat} {args : List Value} {S : e_SS} {Q : e_Rt → e_SS → Prop} (hlen : (e_slx args).length ≤ 4) (j : s_w X d K_X7_hasFault 0 (e_ent0 args 4) [] S (fun r S' => e_rcr (some FieldType.boolean) r = true ∧ Q r S')) : s_c X d 85 args S Q := c_of rM_X7_hasFault rC_X7_hasFault rfl (fun _ => by contradiction) hlen j
abbrev r_X7_trialsInside : e_MT := ((yX7_trialsInside, 11), (4, true), (1422, 1421, 105, 9999))
abbrev K_X7_trialsInside : e_KT := (11, false, cX7_trialsInside, 6, [])
theorem rM_X7_trialsInside : e_M[86]? = some r_X7_trialsInside := by rfl
theorem rC_X7_trialsInside : e_tb 1422 = some (Cond.code yX7_trialsInside cX7_trialsInside 6 (some FieldType.int)) := by decide +kernel
theorem m_X7_trialsInside {X : e_XT} {d : Nat} {args : List Value} {S : e_SS} {Q : e_Rt → e_SS → Prop} (hlen : (e_slx args).length ≤ 6) (j : s_w X d K_X7_trialsInside 0 (e_ent0 args 6) [] S (fun r S' => e_rcr (some FieldType.int) r = true ∧ Q r S')) : s_c X d 86 args S Q := c_of rM_X7_trialsInside rC_X7_trialsInside rfl (fun _ => by contradiction) hlen j
abbrev r_X8_rankOf : e_MT := ((yX8_rankOf, 12), (1, false), (663, 661, 114, 662))
abbrev K_X8_rankOf : e_KT := (12, false, cX8_rankOf, 2, [])
theorem rM_X8_rankOf : e_M[87]? = some r_X8_rankOf := by rfl
theorem rC_X8_rankOf : e_tb 663 = some (Cond.code yX8_rankOf cX8_rankOf 2 (some FieldType.int)) := by decide +kernel
theorem m_X8_rankOf {X : e_XT} {d : Nat} {args : List Value} {S : e_SS} {Q : e_Rt → e_SS → Prop} (hlen : (e_slx args).length ≤ 2) (j : s_w X d K_X8_rankOf 0 (e_ent0 args 2) [] S (fun r S' => e_rcr (some FieldType.int) r = true ∧ Q r S')) : s_c X d 87 args S Q := c_of rM_X8_rankOf rC_X8_rankOf rfl (fun _ => by contradiction) hlen j
abbrev r_X8_hasRow : e_MT := ((yX8_hasRow, 12), (1, false), (668, 666, 114, 8))
abbrev K_X8_hasRow : e_KT := (12, false, cX8_hasRow, 2, [])
theorem rM_X8_hasRow : e_M[88]? = some r_X8_hasRow := by rfl
theorem rC_X8_hasRow : e_tb 668 = some (Cond.code yX8_hasRow cX8_hasRow 2 (some FieldType.boolean)) := by decide +kernel
theorem m_X8_hasRow {X : e_XT} {d : Nat} {args : List Value} {S : e_SS} {Q : e_Rt → e_SS → Prop} (hlen : (e_slx args).length ≤ 2) (j : s_w X d K_X8_hasRow 0 (e_ent0 args 2) [] S (fun r S' => e_rcr (some FieldType.boolean) r = true ∧ Q r S')) : s_c X d 88 args S Q := c_of rM_X8_hasRow rC_X8_hasRow rfl (fun _ => by contradiction) hlen j
abbrev r_X8_noteOf : e_MT := ((yX8_noteOf, 12), (2, false), (672, 670, 114, 671))
abbrev K_X8_noteOf : e_KT := (12, false, cX8_noteOf, 5, [])
theorem rM_X8_noteOf : e_M[89]? = some r_X8_noteOf := by rfl
theorem rC_X8_noteOf : e_tb 672 = some (Cond.code yX8_noteOf cX8_noteOf 5 (some FieldType.int)) := by decide +kernel
theorem m_X8_noteOf {X : e_XT} {d : Nat} {args : List Value} {S : e_SS} {Q : e_Rt → e_SS → Prop} (hlen : (e_slx args).length ≤ 5) (j : s_w X d K_X8_noteOf 0 (e_ent0 args 5) [] S (fun r S' => e_rcr (some FieldType.int) r = true ∧ Q r S')) : s_c X d 89 args S Q := c_of rM_X8_noteOf rC_X8_noteOf rfl (fun _ => by contradiction) hlen j
abbrev r_X8_placeOf : e_MT := ((yX8_placeOf, 12), (1, false), (676, 675, 114, 9))
abbrev K_X8_placeOf : e_KT := (12, false, cX8_placeOf, 2, [])
theorem rM_X8_placeOf : e_M[90]? = some r_X8_placeOf := by rfl
theorem rC_X8_placeOf : e_tb 676 = some (Cond.code yX8_placeOf cX8_placeOf 2 (some FieldType.int)) := by decide +kernel
theorem m_X8_placeOf {X : e_XT} {d : Nat} {args : List Value} {S : e_SS} {Q : e_Rt → e_SS → Prop} (hlen : (e_slx args).length ≤ 2) (j : s_w X d K_X8_placeOf 0 (e_ent0 args 2) [] S (fun r S' => e_rcr (some FieldType.int) r = true ∧ Q r S')) : s_c X d 90 args S Q := c_of rM_X8_placeOf rC_X8_placeOf rfl (fun _ => by contradiction) hlen j
abbrev r_X8_keyOf : e_MT := ((yX8_keyOf, 12), (2, false), (830, 828, 114, 829))
abbrev K_X8_keyOf : e_KT := (12, false, cX8_keyOf, 5, [])
theorem rM_X8_keyOf : e_M[91]? = some r_X8_keyOf := by rfl
theorem rC_X8_keyOf : e_tb 830 = some (Cond.code yX8_keyOf cX8_keyOf 5 (some FieldType.int)) := by decide +kernel
theorem m_X8_keyOf {X : e_XT} {d : Nat} {args : List Value} {S : e_SS} {Q : e_Rt → e_SS → Prop} (hlen : (e_slx args).length ≤ 5) (j : s_w X d K_X8_keyOf 0 (e_ent0 args 5) [] S (fun r S' => e_rcr (some FieldType.int) r = true ∧ Q r S')) : s_c X d 91 args S Q := c_of rM_X8_keyOf rC_X8_keyOf rfl (fun _ => by contradiction) hlen j
abbrev r_X8_init : e_MT := ((yX8_init, 12), (0, false), (1090, 1089, 114, 9999))
abbrev K_X8_init : e_KT := (12, true, cX8_init, 2, [])
theorem rM_X8_init : e_M[92]? = some r_X8_init := by rfl
theorem rC_X8_init : e_tb 1090 = some (Cond.code yX8_init cX8_init 2 (none)) := by decide +kernel
theorem m_X8_init {X : e_XT} {d : Nat} {args : List Value} {S : e_SS} {Q : e_Rt → e_SS → Prop} (hlen : (e_slx args).length ≤ 2) (j : s_w X d K_X8_init 0 (e_ent0 args 2) [] S (fun r S' => e_rcr (none) r = true ∧ Q r S')) : s_c X d 92 args S Q := c_of rM_X8_init rC_X8_init rfl (fun _ => by rfl) hlen j
abbrev r_X8_addRow : e_MT := ((yX8_addRow, 12), (4, false), (1170, 1168, 114, 1169))
abbrev K_X8_addRow : e_KT := (12, false, cX8_addRow, 5, [])
theorem rM_X8_addRow : e_M[93]? = some r_X8_addRow := by rfl
theorem rC_X8_addRow : e_tb 1170 = some (Cond.code yX8_addRow cX8_addRow 5 (some FieldType.boolean)) := by decide +kernel
theorem m_X8_addRow {X : e_XT} {d : Nat} {args : List Value} {S : e_SS} {Q : e_Rt → e_SS → Prop} (hlen : (e_slx args).length ≤ 5) (j : s_w X d K_X8_addRow 0 (e_ent0 args 5) [] S (fun r S' => e_rcr (some FieldType.boolean) r = true ∧ Q r S')) : s_c X d 93 args S Q := c_of rM_X8_addRow rC_X8_addRow rfl (fun _ => by contradiction) hlen j
abbrev r_X8_changePlaces : e_MT := ((yX8_changePlaces, 12), (2, false), (1183, 1181, 114, 1182))
abbrev K_X8_changePlaces : e_KT := (12, false, cX8_changePlaces, 5, [])
theorem rM_X8_changePlaces : e_M[94]? = some r_X8_changePlaces := by rfl
theorem rC_X8_changePlaces : e_tb 1183 = some (Cond.code yX8_changePlaces cX8_changePlaces 5 (none)) := by decide +kernel
theorem m_X8_changePlaces {X : e_XT} {d : Nat} {args : List Value} {S : e_SS} {Q : e_Rt → e_SS → Prop} (hlen : (e_slx args).length ≤ 5) (j : s_w X d K_X8_changePlaces 0 (e_ent0 args 5) [] S (fun r S' => e_rcr (none) r = true ∧ Q r S')) : s_c X d 94 args S Q := c_of rM_X8_changePlaces rC_X8_changePlaces rfl (fun _ => by contradiction) hlen j
abbrev r_X8_putPlace : e_MT := ((yX8_putPlace, 12), (2, false), (1187, 1186, 114, 22))
abbrev K_X8_putPlace : e_KT := (12, false, cX8_putPlace, 3, [])
theorem rM_X8_putPlace : e_M[95]? = some r_X8_putPlace := by rfl
theorem rC_X8_putPlace : e_tb 1187 = some (Cond.code yX8_putPlace cX8_putPlace 3 (none)) := by decide +kernel
theorem m_X8_putPlace {X : e_XT} {d : Nat} {args : List Value} {S : e_SS} {Q : e_Rt → e_SS → Prop} (hlen : (e_slx args).length ≤ 3) (j : s_w X d K_X8_putPlace 0 (e_ent0 args 3) [] S (fun r S' => e_rcr (none) r = true ∧ Q r S')) : s_c X d 95 args S Q := c_of rM_X8_putPlace rC_X8_putPlace rfl (fun _ => by contradiction) hlen j
abbrev r_X8_displaced : e_MT := ((yX8_displaced, 12), (0, false), (1191, 1189, 114, 1190))
abbrev K_X8_displaced : e_KT := (12, false, cX8_displaced, 3, [])
theorem rM_X8_displaced : e_M[96]? = some r_X8_displaced := by rfl
theorem rC_X8_displaced : e_tb 1191 = some (Cond.code yX8_displaced cX8_displaced 3 (some FieldType.int)) := by decide +kernel
theorem m_X8_displaced {X : e_XT} {d : Nat} {args : List Value} {S : e_SS} {Q : e_Rt → e_SS → Prop} (hlen : (e_slx args).length ≤ 3) (j : s_w X d K_X8_displaced 0 (e_ent0 args 3) [] S (fun r S' => e_rcr (some FieldType.int) r = true ∧ Q r S')) : s_c X d 96 args S Q := c_of rM_X8_displaced rC_X8_displaced rfl (fun _ => by contradiction) hlen j
abbrev r_X9_init : e_MT := ((yX9_init, 13), (0, false), (372, 371, 94, 9999))
abbrev K_X9_init : e_KT := (13, true, cX9_init, 1, [])
theorem rM_X9_init : e_M[97]? = some r_X9_init := by rfl
theorem rC_X9_init : e_tb 372 = some (Cond.code yX9_init cX9_init 1 (none)) := by decide +kernel
theorem m_X9_init {X : e_XT} {d : Nat} {args : List Value} {S : e_SS} {Q : e_Rt → e_SS → Prop} (hlen : (e_slx args).length ≤ 1) (j : s_w X d K_X9_init 0 (e_ent0 args 1) [] S (fun r S' => e_rcr (none) r = true ∧ Q r S')) : s_c X d 97 args S Q := c_of rM_X9_init rC_X9_init rfl (fun _ => by rfl) hlen j
abbrev r_X9_keepPipe : e_MT := ((yX9_keepPipe, 13), (4, false), (696, 694, 94, 695))
abbrev K_X9_keepPipe : e_KT := (13, false, cX9_keepPipe, 5, [])
theorem rM_X9_keepPipe : e_M[98]? = some r_X9_keepPipe := by rfl
theorem rC_X9_keepPipe : e_tb 696 = some (Cond.code yX9_keepPipe cX9_keepPipe 5 (none)) := by decide +kernel
theorem m_X9_keepPipe {X : e_XT} {d : Nat} {args : List Value} {S : e_SS} {Q : e_Rt → e_SS → Prop} (hlen : (e_slx args).length ≤ 5) (j : s_w X d K_X9_keepPipe 0 (e_ent0 args 5) [] S (fun r S' => e_rcr (none) r = true ∧ Q r S')) : s_c X d 98 args S Q := c_of rM_X9_keepPipe rC_X9_keepPipe rfl (fun _ => by contradiction) hlen j
abbrev r_X9_keepEntry : e_MT := ((yX9_keepEntry, 13), (3, false), (700, 699, 94, 11))
abbrev K_X9_keepEntry : e_KT := (13, false, cX9_keepEntry, 4, [])
theorem rM_X9_keepEntry : e_M[99]? = some r_X9_keepEntry := by rfl
theorem rC_X9_keepEntry : e_tb 700 = some (Cond.code yX9_keepEntry cX9_keepEntry 4 (none)) := by decide +kernel
theorem m_X9_keepEntry {X : e_XT} {d : Nat} {args : List Value} {S : e_SS} {Q : e_Rt → e_SS → Prop} (hlen : (e_slx args).length ≤ 4) (j : s_w X d K_X9_keepEntry 0 (e_ent0 args 4) [] S (fun r S' => e_rcr (none) r = true ∧ Q r S')) : s_c X d 99 args S Q := c_of rM_X9_keepEntry rC_X9_keepEntry rfl (fun _ => by contradiction) hlen j
abbrev r_X9_keepKey : e_MT := ((yX9_keepKey, 13), (4, false), (759, 757, 94, 758))
abbrev K_X9_keepKey : e_KT := (13, false, cX9_keepKey, 5, [])
theorem rM_X9_keepKey : e_M[100]? = some r_X9_keepKey := by rfl
theorem rC_X9_keepKey : e_tb 759 = some (Cond.code yX9_keepKey cX9_keepKey 5 (none)) := by decide +kernel
theorem m_X9_keepKey {X : e_XT} {d : Nat} {args : List Value} {S : e_SS} {Q : e_Rt → e_SS → Prop} (hlen : (e_slx args).length ≤ 5) (j : s_w X d K_X9_keepKey 0 (e_ent0 args 5) [] S (fun r S' => e_rcr (none) r = true ∧ Q r S')) : s_c X d 100 args S Q := c_of rM_X9_keepKey rC_X9_keepKey rfl (fun _ => by contradiction) hlen j
abbrev r_X9_start : e_MT := ((yX9_start, 13), (2, false), (1662, 1660, 94, 1661))
abbrev K_X9_start : e_KT := (13, false, cX9_start, 3, [])
theorem rM_X9_start : e_M[101]? = some r_X9_start := by rfl
theorem rC_X9_start : e_tb 1662 = some (Cond.code yX9_start cX9_start 3 (none)) := by decide +kernel
theorem m_X9_start {X : e_XT} {d : Nat} {args : List Value} {S : e_SS} {Q : e_Rt → e_SS → Prop} (hlen : (e_slx args).length ≤ 3) (j : s_w X d K_X9_start 0 (e_ent0 args 3) [] S (fun r S' => e_rcr (none) r = true ∧ Q r S')) : s_c X d 101 args S Q := c_of rM_X9_start rC_X9_start rfl (fun _ => by contradiction) hlen j
abbrev r_X9_ticksBefore : e_MT := ((yX9_ticksBefore, 13), (1, false), (1674, 1672, 94, 1673))
abbrev K_X9_ticksBefore : e_KT := (13, false, cX9_ticksBefore, 2, [])
theorem rM_X9_ticksBefore : e_M[102]? = some r_X9_ticksBefore := by rfl
theorem rC_X9_ticksBefore : e_tb 1674 = some (Cond.code yX9_ticksBefore cX9_ticksBefore 2 (some FieldType.int)) := by decide +kernel
theorem m_X9_ticksBefore {X : e_XT} {d : Nat} {args : List Value} {S : e_SS} {Q : e_Rt → e_SS → Prop} (hlen : (e_slx args).length ≤ 2) (j : s_w X d K_X9_ticksBefore 0 (e_ent0 args 2) [] S (fun r S' => e_rcr (some FieldType.int) r = true ∧ Q r S')) : s_c X d 102 args S Q := c_of rM_X9_ticksBefore rC_X9_ticksBefore rfl (fun _ => by contradiction) hlen j
abbrev r_X9_entryAt : e_MT := ((yX9_entryAt, 13), (1, false), (1678, 1677, 94, 28))
abbrev K_X9_entryAt : e_KT := (13, false, cX9_entryAt, 2, [])
theorem rM_X9_entryAt : e_M[103]? = some r_X9_entryAt := by rfl
theorem rC_X9_entryAt : e_tb 1678 = some (Cond.code yX9_entryAt cX9_entryAt 2 (some FieldType.int)) := by decide +kernel
theorem m_X9_entryAt {X : e_XT} {d : Nat} {args : List Value} {S : e_SS} {Q : e_Rt → e_SS → Prop} (hlen : (e_slx args).length ≤ 2) (j : s_w X d K_X9_entryAt 0 (e_ent0 args 2) [] S (fun r S' => e_rcr (some FieldType.int) r = true ∧ Q r S')) : s_c X d 103 args S Q := c_of rM_X9_entryAt rC_X9_entryAt rfl (fun _ => by contradiction) hlen j
abbrev r_X9_highCodeAt : e_MT := ((yX9_highCodeAt, 13), (1, false), (1682, 1680, 94, 1681))
abbrev K_X9_highCodeAt : e_KT := (13, false, cX9_highCodeAt, 2, [])
theorem rM_X9_highCodeAt : e_M[104]? = some r_X9_highCodeAt := by rfl
theorem rC_X9_highCodeAt : e_tb 1682 = some (Cond.code yX9_highCodeAt cX9_highCodeAt 2 (some FieldType.int)) := by decide +kernel
theorem m_X9_highCodeAt {X : e_XT} {d : Nat} {args : List Value} {S : e_SS} {Q : e_Rt → e_SS → Prop} (hlen : (e_slx args).length ≤ 2) (j : s_w X d K_X9_highCodeAt 0 (e_ent0 args 2) [] S (fun r S' => e_rcr (some FieldType.int) r = true ∧ Q r S')) : s_c X d 104 args S Q := c_of rM_X9_highCodeAt rC_X9_highCodeAt rfl (fun _ => by contradiction) hlen j
abbrev r_X9_lowCodeAt : e_MT := ((yX9_lowCodeAt, 13), (1, false), (1686, 1684, 94, 1685))
abbrev K_X9_lowCodeAt : e_KT := (13, false, cX9_lowCodeAt, 2, [])
theorem rM_X9_lowCodeAt : e_M[105]? = some r_X9_lowCodeAt := by rfl
theorem rC_X9_lowCodeAt : e_tb 1686 = some (Cond.code yX9_lowCodeAt cX9_lowCodeAt 2 (some FieldType.int)) := by decide +kernel
theorem m_X9_lowCodeAt {X : e_XT} {d : Nat} {args : List Value} {S : e_SS} {Q : e_Rt → e_SS → Prop} (hlen : (e_slx args).length ≤ 2) (j : s_w X d K_X9_lowCodeAt 0 (e_ent0 args 2) [] S (fun r S' => e_rcr (some FieldType.int) r = true ∧ Q r S')) : s_c X d 105 args S Q := c_of rM_X9_lowCodeAt rC_X9_lowCodeAt rfl (fun _ => by contradiction) hlen j
abbrev r_X9_isOnAt : e_MT := ((yX9_isOnAt, 13), (1, false), (1690, 1688, 94, 1689))
abbrev K_X9_isOnAt : e_KT := (13, false, cX9_isOnAt, 2, [])
theorem rM_X9_isOnAt : e_M[106]? = some r_X9_isOnAt := by rfl
theorem rC_X9_isOnAt : e_tb 1690 = some (Cond.code yX9_isOnAt cX9_isOnAt 2 (some FieldType.boolean)) := by decide +kernel
theorem m_X9_isOnAt {X : e_XT} {d : Nat} {args : List Value} {S : e_SS} {Q : e_Rt → e_SS → Prop} (hlen : (e_slx args).length ≤ 2) (j : s_w X d K_X9_isOnAt 0 (e_ent0 args 2) [] S (fun r S' => e_rcr (some FieldType.boolean) r = true ∧ Q r S')) : s_c X d 106 args S Q := c_of rM_X9_isOnAt rC_X9_isOnAt rfl (fun _ => by contradiction) hlen j
abbrev r_X10_init : e_MT := ((yX10_init, 14), (0, false), (137, 136, 82, 9999))
abbrev K_X10_init : e_KT := (14, true, cX10_init, 1, [])
theorem rM_X10_init : e_M[107]? = some r_X10_init := by rfl
theorem rC_X10_init : e_tb 137 = some (Cond.code yX10_init cX10_init 1 (none)) := by decide +kernel
theorem m_X10_init {X : e_XT} {d : Nat} {args : List Value} {S : e_SS} {Q : e_Rt → e_SS → Prop} (hlen : (e_slx args).length ≤ 1) (j : s_w X d K_X10_init 0 (e_ent0 args 1) [] S (fun r S' => e_rcr (none) r = true ∧ Q r S')) : s_c X d 107 args S Q := c_of rM_X10_init rC_X10_init rfl (fun _ => by rfl) hlen j
abbrev r_X10_settle : e_MT := ((yX10_settle, 14), (0, false), (558, 556, 82, 557))
abbrev K_X10_settle : e_KT := (14, false, cX10_settle, 1, [])
theorem rM_X10_settle : e_M[108]? = some r_X10_settle := by rfl
theorem rC_X10_settle : e_tb 558 = some (Cond.code yX10_settle cX10_settle 1 (none)) := by decide +kernel
theorem m_X10_settle {X : e_XT} {d : Nat} {args : List Value} {S : e_SS} {Q : e_Rt → e_SS → Prop} (hlen : (e_slx args).length ≤ 1) (j : s_w X d K_X10_settle 0 (e_ent0 args 1) [] S (fun r S' => e_rcr (none) r = true ∧ Q r S')) : s_c X d 108 args S Q := c_of rM_X10_settle rC_X10_settle rfl (fun _ => by contradiction) hlen j
abbrev r_X10_forgetReasons : e_MT := ((yX10_forgetReasons, 14), (0, false), (606, 605, 82, 4))
abbrev K_X10_forgetReasons : e_KT := (14, false, cX10_forgetReasons, 6, [])
theorem rM_X10_forgetReasons : e_M[109]? = some r_X10_forgetReasons := by rfl
theorem rC_X10_forgetReasons : e_tb 606 = some (Cond.code yX10_forgetReasons cX10_forgetReasons 6 (none)) := by decide +kernel
theorem m_X10_forgetReasons {X : e_XT} {d : Nat} {args : List Value} {S : e_SS} {Q : e_Rt → e_SS → Prop} (hlen : (e_slx args).length ≤ 6) (j : s_w X d K_X10_forgetReasons 0 (e_ent0 args 6) [] S (fun r S' => e_rcr (none) r = true ∧ Q r S')) : s_c X d 109 args S Q := c_of rM_X10_forgetReasons rC_X10_forgetReasons rfl (fun _ => by contradiction) hlen j
abbrev r_X10_findWays : e_MT := ((yX10_findWays, 14), (0, false), (617, 616, 82, 5))
abbrev K_X10_findWays : e_KT := (14, false, cX10_findWays, 6, [])
theorem rM_X10_findWays : e_M[110]? = some r_X10_findWays := by rfl
theorem rC_X10_findWays : e_tb 617 = some (Cond.code yX10_findWays cX10_findWays 6 (none)) := by decide +kernel
theorem m_X10_findWays {X : e_XT} {d : Nat} {args : List Value} {S : e_SS} {Q : e_Rt → e_SS → Prop} (hlen : (e_slx args).length ≤ 6) (j : s_w X d K_X10_findWays 0 (e_ent0 args 6) [] S (fun r S' => e_rcr (none) r = true ∧ Q r S')) : s_c X d 110 args S Q := c_of rM_X10_findWays rC_X10_findWays rfl (fun _ => by contradiction) hlen j
abbrev r_X10_findReasons : e_MT := ((yX10_findReasons, 14), (0, false), (648, 647, 82, 6))
abbrev K_X10_findReasons : e_KT := (14, false, cX10_findReasons, 3, [])
theorem rM_X10_findReasons : e_M[111]? = some r_X10_findReasons := by rfl
theorem rC_X10_findReasons : e_tb 648 = some (Cond.code yX10_findReasons cX10_findReasons 3 (none)) := by decide +kernel
theorem m_X10_findReasons {X : e_XT} {d : Nat} {args : List Value} {S : e_SS} {Q : e_Rt → e_SS → Prop} (hlen : (e_slx args).length ≤ 3) (j : s_w X d K_X10_findReasons 0 (e_ent0 args 3) [] S (fun r S' => e_rcr (none) r = true ∧ Q r S')) : s_c X d 111 args S Q := c_of rM_X10_findReasons rC_X10_findReasons rfl (fun _ => by contradiction) hlen j
abbrev r_X10_addReasons : e_MT := ((yX10_addReasons, 14), (2, false), (656, 655, 82, 7))
abbrev K_X10_addReasons : e_KT := (14, false, cX10_addReasons, 8, [])
theorem rM_X10_addReasons : e_M[112]? = some r_X10_addReasons := by rfl
theorem rC_X10_addReasons : e_tb 656 = some (Cond.code yX10_addReasons cX10_addReasons 8 (none)) := by decide +kernel
theorem m_X10_addReasons {X : e_XT} {d : Nat} {args : List Value} {S : e_SS} {Q : e_Rt → e_SS → Prop} (hlen : (e_slx args).length ≤ 8) (j : s_w X d K_X10_addReasons 0 (e_ent0 args 8) [] S (fun r S' => e_rcr (none) r = true ∧ Q r S')) : s_c X d 112 args S Q := c_of rM_X10_addReasons rC_X10_addReasons rfl (fun _ => by contradiction) hlen j
abbrev r_X10_pipeAt : e_MT := ((yX10_pipeAt, 14), (2, false), (680, 678, 82, 679))
abbrev K_X10_pipeAt : e_KT := (14, false, cX10_pipeAt, 4, [])
theorem rM_X10_pipeAt : e_M[113]? = some r_X10_pipeAt := by rfl
theorem rC_X10_pipeAt : e_tb 680 = some (Cond.code yX10_pipeAt cX10_pipeAt 4 (some (FieldType.object "Rankhall$Pipe"))) := by decide +kernel
theorem m_X10_pipeAt {X : e_XT} {d : Nat} {args : List Value} {S : e_SS} {Q : e_Rt → e_SS → Prop} (hlen : (e_slx args).length ≤ 4) (j : s_w X d K_X10_pipeAt 0 (e_ent0 args 4) [] S (fun r S' => e_rcr (some (FieldType.object "Rankhall$Pipe")) r = true ∧ Q r S')) : s_c X d 113 args S Q := c_of rM_X10_pipeAt rC_X10_pipeAt rfl (fun _ => by contradiction) hlen j
abbrev r_X10_movePallets : e_MT := ((yX10_movePallets, 14), (0, false), (688, 687, 82, 10))
abbrev K_X10_movePallets : e_KT := (14, false, cX10_movePallets, 6, [])
theorem rM_X10_movePallets : e_M[114]? = some r_X10_movePallets := by rfl
theorem rC_X10_movePallets : e_tb 688 = some (Cond.code yX10_movePallets cX10_movePallets 6 (none)) := by decide +kernel
theorem m_X10_movePallets {X : e_XT} {d : Nat} {args : List Value} {S : e_SS} {Q : e_Rt → e_SS → Prop} (hlen : (e_slx args).length ≤ 6) (j : s_w X d K_X10_movePallets 0 (e_ent0 args 6) [] S (fun r S' => e_rcr (none) r = true ∧ Q r S')) : s_c X d 114 args S Q := c_of rM_X10_movePallets rC_X10_movePallets rfl (fun _ => by contradiction) hlen j
abbrev r_X10_findWinds : e_MT := ((yX10_findWinds, 14), (0, false), (723, 722, 82, 12))
abbrev K_X10_findWinds : e_KT := (14, false, cX10_findWinds, 4, [])
theorem rM_X10_findWinds : e_M[115]? = some r_X10_findWinds := by rfl
theorem rC_X10_findWinds : e_tb 723 = some (Cond.code yX10_findWinds cX10_findWinds 4 (none)) := by decide +kernel
theorem m_X10_findWinds {X : e_XT} {d : Nat} {args : List Value} {S : e_SS} {Q : e_Rt → e_SS → Prop} (hlen : (e_slx args).length ≤ 4) (j : s_w X d K_X10_findWinds 0 (e_ent0 args 4) [] S (fun r S' => e_rcr (none) r = true ∧ Q r S')) : s_c X d 115 args S Q := c_of rM_X10_findWinds rC_X10_findWinds rfl (fun _ => by contradiction) hlen j
abbrev r_X10_findSpeech : e_MT := ((yX10_findSpeech, 14), (0, false), (732, 731, 82, 13))
abbrev K_X10_findSpeech : e_KT := (14, false, cX10_findSpeech, 9, [])
theorem rM_X10_findSpeech : e_M[116]? = some r_X10_findSpeech := by rfl
theorem rC_X10_findSpeech : e_tb 732 = some (Cond.code yX10_findSpeech cX10_findSpeech 9 (none)) := by decide +kernel
theorem m_X10_findSpeech {X : e_XT} {d : Nat} {args : List Value} {S : e_SS} {Q : e_Rt → e_SS → Prop} (hlen : (e_slx args).length ≤ 9) (j : s_w X d K_X10_findSpeech 0 (e_ent0 args 9) [] S (fun r S' => e_rcr (none) r = true ∧ Q r S')) : s_c X d 116 args S Q := c_of rM_X10_findSpeech rC_X10_findSpeech rfl (fun _ => by contradiction) hlen j
abbrev r_X10_releaseAll : e_MT := ((yX10_releaseAll, 14), (0, false), (740, 738, 82, 739))
abbrev K_X10_releaseAll : e_KT := (14, false, cX10_releaseAll, 4, [])
theorem rM_X10_releaseAll : e_M[117]? = some r_X10_releaseAll := by rfl
theorem rC_X10_releaseAll : e_tb 740 = some (Cond.code yX10_releaseAll cX10_releaseAll 4 (some FieldType.int)) := by decide +kernel
theorem m_X10_releaseAll {X : e_XT} {d : Nat} {args : List Value} {S : e_SS} {Q : e_Rt → e_SS → Prop} (hlen : (e_slx args).length ≤ 4) (j : s_w X d K_X10_releaseAll 0 (e_ent0 args 4) [] S (fun r S' => e_rcr (some FieldType.int) r = true ∧ Q r S')) : s_c X d 117 args S Q := c_of rM_X10_releaseAll rC_X10_releaseAll rfl (fun _ => by contradiction) hlen j
abbrev r_X10_pressKey : e_MT := ((yX10_pressKey, 14), (3, false), (745, 743, 82, 744))
abbrev K_X10_pressKey : e_KT := (14, false, cX10_pressKey, 4, [])
theorem rM_X10_pressKey : e_M[118]? = some r_X10_pressKey := by rfl
theorem rC_X10_pressKey : e_tb 745 = some (Cond.code yX10_pressKey cX10_pressKey 4 (none)) := by decide +kernel
theorem m_X10_pressKey {X : e_XT} {d : Nat} {args : List Value} {S : e_SS} {Q : e_Rt → e_SS → Prop} (hlen : (e_slx args).length ≤ 4) (j : s_w X d K_X10_pressKey 0 (e_ent0 args 4) [] S (fun r S' => e_rcr (none) r = true ∧ Q r S')) : s_c X d 118 args S Q := c_of rM_X10_pressKey rC_X10_pressKey rfl (fun _ => by contradiction) hlen j
abbrev r_X10_allLoudness : e_MT := ((yX10_allLoudness, 14), (0, false), (776, 774, 82, 775))
abbrev K_X10_allLoudness : e_KT := (14, false, cX10_allLoudness, 9, [])
theorem rM_X10_allLoudness : e_M[119]? = some r_X10_allLoudness := by rfl
theorem rC_X10_allLoudness : e_tb 776 = some (Cond.code yX10_allLoudness cX10_allLoudness 9 (some FieldType.int)) := by decide +kernel
theorem m_X10_allLoudness {X : e_XT} {d : Nat} {args : List Value} {S : e_SS} {Q : e_Rt → e_SS → Prop} (hlen : (e_slx args).length ≤ 9) (j : s_w X d K_X10_allLoudness 0 (e_ent0 args 9) [] S (fun r S' => e_rcr (some FieldType.int) r = true ∧ Q r S')) : s_c X d 119 args S Q := c_of rM_X10_allLoudness rC_X10_allLoudness rfl (fun _ => by contradiction) hlen j
abbrev r_X10_isConsistent : e_MT := ((yX10_isConsistent, 14), (0, false), (822, 820, 82, 821))
abbrev K_X10_isConsistent : e_KT := (14, false, cX10_isConsistent, 6, [])
theorem rM_X10_isConsistent : e_M[120]? = some r_X10_isConsistent := by rfl
theorem rC_X10_isConsistent : e_tb 822 = some (Cond.code yX10_isConsistent cX10_isConsistent 6 (some FieldType.boolean)) := by decide +kernel
theorem m_X10_isConsistent {X : e_XT} {d : Nat} {args : List Value} {S : e_SS} {Q : e_Rt → e_SS → Prop} (hlen : (e_slx args).length ≤ 6) (j : s_w X d K_X10_isConsistent 0 (e_ent0 args 6) [] S (fun r S' => e_rcr (some FieldType.boolean) r = true ∧ Q r S')) : s_c X d 120 args S Q := c_of rM_X10_isConsistent rC_X10_isConsistent rfl (fun _ => by contradiction) hlen j
abbrev r_X10_reasonsAlone : e_MT := ((yX10_reasonsAlone, 14), (2, false), (826, 824, 82, 825))
abbrev K_X10_reasonsAlone : e_KT := (14, false, cX10_reasonsAlone, 10, [])
theorem rM_X10_reasonsAlone : e_M[121]? = some r_X10_reasonsAlone := by rfl
theorem rC_X10_reasonsAlone : e_tb 826 = some (Cond.code yX10_reasonsAlone cX10_reasonsAlone 10 (some FieldType.int)) := by decide +kernel
theorem m_X10_reasonsAlone {X : e_XT} {d : Nat} {args : List Value} {S : e_SS} {Q : e_Rt → e_SS → Prop} (hlen : (e_slx args).length ≤ 10) (j : s_w X d K_X10_reasonsAlone 0 (e_ent0 args 10) [] S (fun r S' => e_rcr (some FieldType.int) r = true ∧ Q r S')) : s_c X d 121 args S Q := c_of rM_X10_reasonsAlone rC_X10_reasonsAlone rfl (fun _ => by contradiction) hlen j
abbrev r_X10_rankAt : e_MT := ((yX10_rankAt, 14), (1, false), (1146, 1144, 82, 1145))
abbrev K_X10_rankAt : e_KT := (14, false, cX10_rankAt, 2, [])
theorem rM_X10_rankAt : e_M[122]? = some r_X10_rankAt := by rfl
theorem rC_X10_rankAt : e_tb 1146 = some (Cond.code yX10_rankAt cX10_rankAt 2 (some (FieldType.object "Rankhall$Rank"))) := by decide +kernel
theorem m_X10_rankAt {X : e_XT} {d : Nat} {args : List Value} {S : e_SS} {Q : e_Rt → e_SS → Prop} (hlen : (e_slx args).length ≤ 2) (j : s_w X d K_X10_rankAt 0 (e_ent0 args 2) [] S (fun r S' => e_rcr (some (FieldType.object "Rankhall$Rank")) r = true ∧ Q r S')) : s_c X d 122 args S Q := c_of rM_X10_rankAt rC_X10_rankAt rfl (fun _ => by contradiction) hlen j
abbrev r_X10_passTicks : e_MT := ((yX10_passTicks, 14), (1, false), (1283, 1281, 82, 1282))
abbrev K_X10_passTicks : e_KT := (14, false, cX10_passTicks, 3, [])
theorem rM_X10_passTicks : e_M[123]? = some r_X10_passTicks := by rfl
theorem rC_X10_passTicks : e_tb 1283 = some (Cond.code yX10_passTicks cX10_passTicks 3 (none)) := by decide +kernel
theorem m_X10_passTicks {X : e_XT} {d : Nat} {args : List Value} {S : e_SS} {Q : e_Rt → e_SS → Prop} (hlen : (e_slx args).length ≤ 3) (j : s_w X d K_X10_passTicks 0 (e_ent0 args 3) [] S (fun r S' => e_rcr (none) r = true ∧ Q r S')) : s_c X d 123 args S Q := c_of rM_X10_passTicks rC_X10_passTicks rfl (fun _ => by contradiction) hlen j
abbrev r_X10_passIdly : e_MT := ((yX10_passIdly, 14), (0, false), (1287, 1286, 82, 23))
abbrev K_X10_passIdly : e_KT := (14, false, cX10_passIdly, 2, [])
theorem rM_X10_passIdly : e_M[124]? = some r_X10_passIdly := by rfl
theorem rC_X10_passIdly : e_tb 1287 = some (Cond.code yX10_passIdly cX10_passIdly 2 (none)) := by decide +kernel
theorem m_X10_passIdly {X : e_XT} {d : Nat} {args : List Value} {S : e_SS} {Q : e_Rt → e_SS → Prop} (hlen : (e_slx args).length ≤ 2) (j : s_w X d K_X10_passIdly 0 (e_ent0 args 2) [] S (fun r S' => e_rcr (none) r = true ∧ Q r S')) : s_c X d 124 args S Q := c_of rM_X10_passIdly rC_X10_passIdly rfl (fun _ => by contradiction) hlen j
abbrev r_X10_windless : e_MT := ((yX10_windless, 14), (0, false), (1291, 1290, 82, 24))
abbrev K_X10_windless : e_KT := (14, false, cX10_windless, 3, [])
theorem rM_X10_windless : e_M[125]? = some r_X10_windless := by rfl
theorem rC_X10_windless : e_tb 1291 = some (Cond.code yX10_windless cX10_windless 3 (some FieldType.int)) := by decide +kernel
theorem m_X10_windless {X : e_XT} {d : Nat} {args : List Value} {S : e_SS} {Q : e_Rt → e_SS → Prop} (hlen : (e_slx args).length ≤ 3) (j : s_w X d K_X10_windless 0 (e_ent0 args 3) [] S (fun r S' => e_rcr (some FieldType.int) r = true ∧ Q r S')) : s_c X d 125 args S Q := c_of rM_X10_windless rC_X10_windless rfl (fun _ => by contradiction) hlen j
abbrev r_X10_pitchOf : e_MT := ((yX10_pitchOf, 14), (2, false), (1380, 1378, 82, 1379))
abbrev K_X10_pitchOf : e_KT := (14, false, cX10_pitchOf, 6, [])
theorem rM_X10_pitchOf : e_M[126]? = some r_X10_pitchOf := by rfl
theorem rC_X10_pitchOf : e_tb 1380 = some (Cond.code yX10_pitchOf cX10_pitchOf 6 (some FieldType.int)) := by decide +kernel
theorem m_X10_pitchOf {X : e_XT} {d : Nat} {args : List Value} {S : e_SS} {Q : e_Rt → e_SS → Prop} (hlen : (e_slx args).length ≤ 6) (j : s_w X d K_X10_pitchOf 0 (e_ent0 args 6) [] S (fun r S' => e_rcr (some FieldType.int) r = true ∧ Q r S')) : s_c X d 126 args S Q := c_of rM_X10_pitchOf rC_X10_pitchOf rfl (fun _ => by contradiction) hlen j
abbrev r_X10_hold : e_MT := ((yX10_hold, 14), (3, false), (1694, 1692, 82, 1693))
abbrev K_X10_hold : e_KT := (14, false, cX10_hold, 5, [])
theorem rM_X10_hold : e_M[127]? = some r_X10_hold := by rfl
theorem rC_X10_hold : e_tb 1694 = some (Cond.code yX10_hold cX10_hold 5 (none)) := by decide +kernel
theorem m_X10_hold {X : e_XT} {d : Nat} {args : List Value} {S : e_SS} {Q : e_Rt → e_SS → Prop} (hlen : (e_slx args).length ≤ 5) (j : s_w X d K_X10_hold 0 (e_ent0 args 5) [] S (fun r S' => e_rcr (none) r = true ∧ Q r S')) : s_c X d 127 args S Q := c_of rM_X10_hold rC_X10_hold rfl (fun _ => by contradiction) hlen j
abbrev r_X10_holdNone : e_MT := ((yX10_holdNone, 14), (0, false), (1698, 1696, 82, 1697))
abbrev K_X10_holdNone : e_KT := (14, false, cX10_holdNone, 6, [])
theorem rM_X10_holdNone : e_M[128]? = some r_X10_holdNone := by rfl
theorem rC_X10_holdNone : e_tb 1698 = some (Cond.code yX10_holdNone cX10_holdNone 6 (none)) := by decide +kernel
theorem m_X10_holdNone {X : e_XT} {d : Nat} {args : List Value} {S : e_SS} {Q : e_Rt → e_SS → Prop} (hlen : (e_slx args).length ≤ 6) (j : s_w X d K_X10_holdNone 0 (e_ent0 args 6) [] S (fun r S' => e_rcr (none) r = true ∧ Q r S')) : s_c X d 128 args S Q := c_of rM_X10_holdNone rC_X10_holdNone rfl (fun _ => by contradiction) hlen j
abbrev r_X10_pressChord : e_MT := ((yX10_pressChord, 14), (1, false), (1781, 1779, 82, 1780))
abbrev K_X10_pressChord : e_KT := (14, false, cX10_pressChord, 4, [])
theorem rM_X10_pressChord : e_M[129]? = some r_X10_pressChord := by rfl
theorem rC_X10_pressChord : e_tb 1781 = some (Cond.code yX10_pressChord cX10_pressChord 4 (none)) := by decide +kernel
theorem m_X10_pressChord {X : e_XT} {d : Nat} {args : List Value} {S : e_SS} {Q : e_Rt → e_SS → Prop} (hlen : (e_slx args).length ≤ 4) (j : s_w X d K_X10_pressChord 0 (e_ent0 args 4) [] S (fun r S' => e_rcr (none) r = true ∧ Q r S')) : s_c X d 129 args S Q := c_of rM_X10_pressChord rC_X10_pressChord rfl (fun _ => by contradiction) hlen j
abbrev r_X10_allPipes : e_MT := ((yX10_allPipes, 14), (0, false), (1811, 1809, 82, 1810))
abbrev K_X10_allPipes : e_KT := (14, false, cX10_allPipes, 3, [])
theorem rM_X10_allPipes : e_M[130]? = some r_X10_allPipes := by rfl
theorem rC_X10_allPipes : e_tb 1811 = some (Cond.code yX10_allPipes cX10_allPipes 3 (some FieldType.int)) := by decide +kernel
theorem m_X10_allPipes {X : e_XT} {d : Nat} {args : List Value} {S : e_SS} {Q : e_Rt → e_SS → Prop} (hlen : (e_slx args).length ≤ 3) (j : s_w X d K_X10_allPipes 0 (e_ent0 args 3) [] S (fun r S' => e_rcr (some FieldType.int) r = true ∧ Q r S')) : s_c X d 130 args S Q := c_of rM_X10_allPipes rC_X10_allPipes rfl (fun _ => by contradiction) hlen j
abbrev r_X10_sumOfPitches : e_MT := ((yX10_sumOfPitches, 14), (0, false), (1826, 1824, 82, 1825))
abbrev K_X10_sumOfPitches : e_KT := (14, false, cX10_sumOfPitches, 5, [])
theorem rM_X10_sumOfPitches : e_M[131]? = some r_X10_sumOfPitches := by rfl
theorem rC_X10_sumOfPitches : e_tb 1826 = some (Cond.code yX10_sumOfPitches cX10_sumOfPitches 5 (some FieldType.int)) := by decide +kernel
theorem m_X10_sumOfPitches {X : e_XT} {d : Nat} {args : List Value} {S : e_SS} {Q : e_Rt → e_SS → Prop} (hlen : (e_slx args).length ≤ 5) (j : s_w X d K_X10_sumOfPitches 0 (e_ent0 args 5) [] S (fun r S' => e_rcr (some FieldType.int) r = true ∧ Q r S')) : s_c X d 131 args S Q := c_of rM_X10_sumOfPitches rC_X10_sumOfPitches rfl (fun _ => by contradiction) hlen j
abbrev r_X11_init : e_MT := ((yX11_init, 15), (0, false), (129, 128, 81, 9999))
abbrev K_X11_init : e_KT := (15, true, cX11_init, 1, [])
theorem rM_X11_init : e_M[132]? = some r_X11_init := by rfl
theorem rC_X11_init : e_tb 129 = some (Cond.code yX11_init cX11_init 1 (none)) := by decide +kernel
theorem m_X11_init {X : e_XT} {d : Nat} {args : List Value} {S : e_SS} {Q : e_Rt → e_SS → Prop} (hlen : (e_slx args).length ≤ 1) (j : s_w X d K_X11_init 0 (e_ent0 args 1) [] S (fun r S' => e_rcr (none) r = true ∧ Q r S')) : s_c X d 132 args S Q := c_of rM_X11_init rC_X11_init rfl (fun _ => by rfl) hlen j
abbrev r_X11_tutti : e_MT := ((yX11_tutti, 15), (1, false), (554, 552, 81, 553))
abbrev K_X11_tutti : e_KT := (15, false, cX11_tutti, 3, [])
theorem rM_X11_tutti : e_M[133]? = some r_X11_tutti := by rfl
theorem rC_X11_tutti : e_tb 554 = some (Cond.code yX11_tutti cX11_tutti 3 (some FieldType.boolean)) := by decide +kernel
theorem m_X11_tutti {X : e_XT} {d : Nat} {args : List Value} {S : e_SS} {Q : e_Rt → e_SS → Prop} (hlen : (e_slx args).length ≤ 3) (j : s_w X d K_X11_tutti 0 (e_ent0 args 3) [] S (fun r S' => e_rcr (some FieldType.boolean) r = true ∧ Q r S')) : s_c X d 133 args S Q := c_of rM_X11_tutti rC_X11_tutti rfl (fun _ => by contradiction) hlen j
abbrev r_X11_lift : e_MT := ((yX11_lift, 15), (0, false), (736, 734, 81, 735))
abbrev K_X11_lift : e_KT := (15, false, cX11_lift, 1, [])
theorem rM_X11_lift : e_M[134]? = some r_X11_lift := by rfl
theorem rC_X11_lift : e_tb 736 = some (Cond.code yX11_lift cX11_lift 1 (some FieldType.int)) := by decide +kernel
theorem m_X11_lift {X : e_XT} {d : Nat} {args : List Value} {S : e_SS} {Q : e_Rt → e_SS → Prop} (hlen : (e_slx args).length ≤ 1) (j : s_w X d K_X11_lift 0 (e_ent0 args 1) [] S (fun r S' => e_rcr (some FieldType.int) r = true ∧ Q r S')) : s_c X d 134 args S Q := c_of rM_X11_lift rC_X11_lift rfl (fun _ => by contradiction) hlen j
abbrev r_X11_speaking : e_MT := ((yX11_speaking, 15), (0, false), (764, 762, 81, 763))
abbrev K_X11_speaking : e_KT := (15, false, cX11_speaking, 1, [])
theorem rM_X11_speaking : e_M[135]? = some r_X11_speaking := by rfl
theorem rC_X11_speaking : e_tb 764 = some (Cond.code yX11_speaking cX11_speaking 1 (some FieldType.int)) := by decide +kernel
theorem m_X11_speaking {X : e_XT} {d : Nat} {args : List Value} {S : e_SS} {Q : e_Rt → e_SS → Prop} (hlen : (e_slx args).length ≤ 1) (j : s_w X d K_X11_speaking 0 (e_ent0 args 1) [] S (fun r S' => e_rcr (some FieldType.int) r = true ∧ Q r S')) : s_c X d 135 args S Q := c_of rM_X11_speaking rC_X11_speaking rfl (fun _ => by contradiction) hlen j
abbrev r_X11_ended : e_MT := ((yX11_ended, 15), (0, false), (768, 766, 81, 767))
abbrev K_X11_ended : e_KT := (15, false, cX11_ended, 1, [])
theorem rM_X11_ended : e_M[136]? = some r_X11_ended := by rfl
theorem rC_X11_ended : e_tb 768 = some (Cond.code yX11_ended cX11_ended 1 (some FieldType.long)) := by decide +kernel
theorem m_X11_ended {X : e_XT} {d : Nat} {args : List Value} {S : e_SS} {Q : e_Rt → e_SS → Prop} (hlen : (e_slx args).length ≤ 1) (j : s_w X d K_X11_ended 0 (e_ent0 args 1) [] S (fun r S' => e_rcr (some FieldType.long) r = true ∧ Q r S')) : s_c X d 136 args S Q := c_of rM_X11_ended rC_X11_ended rfl (fun _ => by contradiction) hlen j
abbrev r_X11_loudness : e_MT := ((yX11_loudness, 15), (0, false), (772, 770, 81, 771))
abbrev K_X11_loudness : e_KT := (15, false, cX11_loudness, 1, [])
theorem rM_X11_loudness : e_M[137]? = some r_X11_loudness := by rfl
theorem rC_X11_loudness : e_tb 772 = some (Cond.code yX11_loudness cX11_loudness 1 (some FieldType.int)) := by decide +kernel
theorem m_X11_loudness {X : e_XT} {d : Nat} {args : List Value} {S : e_SS} {Q : e_Rt → e_SS → Prop} (hlen : (e_slx args).length ≤ 1) (j : s_w X d K_X11_loudness 0 (e_ent0 args 1) [] S (fun r S' => e_rcr (some FieldType.int) r = true ∧ Q r S')) : s_c X d 137 args S Q := c_of rM_X11_loudness rC_X11_loudness rfl (fun _ => by contradiction) hlen j
abbrev r_X11_step : e_MT := ((yX11_step, 15), (0, false), (780, 778, 81, 779))
abbrev K_X11_step : e_KT := (15, false, cX11_step, 2, [])
theorem rM_X11_step : e_M[138]? = some r_X11_step := by rfl
theorem rC_X11_step : e_tb 780 = some (Cond.code yX11_step cX11_step 2 (some FieldType.int)) := by decide +kernel
theorem m_X11_step {X : e_XT} {d : Nat} {args : List Value} {S : e_SS} {Q : e_Rt → e_SS → Prop} (hlen : (e_slx args).length ≤ 2) (j : s_w X d K_X11_step 0 (e_ent0 args 2) [] S (fun r S' => e_rcr (some FieldType.int) r = true ∧ Q r S')) : s_c X d 138 args S Q := c_of rM_X11_step rC_X11_step rfl (fun _ => by contradiction) hlen j
abbrev r_X11_isDivision : e_MT := ((yX11_isDivision, 15), (1, true), (786, 785, 81, 9999))
abbrev K_X11_isDivision : e_KT := (15, false, cX11_isDivision, 1, [])
theorem rM_X11_isDivision : e_M[139]? = some r_X11_isDivision := by rfl
theorem rC_X11_isDivision : e_tb 786 = some (Cond.code yX11_isDivision cX11_isDivision 1 (some FieldType.boolean)) := by decide +kernel
theorem m_X11_isDivision {X : e_XT} {d : Nat} {args : List Value} {S : e_SS} {Q : e_Rt → e_SS → Prop} (hlen : (e_slx args).length ≤ 1) (j : s_w X d K_X11_isDivision 0 (e_ent0 args 1) [] S (fun r S' => e_rcr (some FieldType.boolean) r = true ∧ Q r S')) : s_c X d 139 args S Q := c_of rM_X11_isDivision rC_X11_isDivision rfl (fun _ => by contradiction) hlen j
abbrev r_X11_moveKnobs : e_MT := ((yX11_moveKnobs, 15), (2, false), (806, 805, 81, 16))
abbrev K_X11_moveKnobs : e_KT := (15, false, cX11_moveKnobs, 6, [])
theorem rM_X11_moveKnobs : e_M[140]? = some r_X11_moveKnobs := by rfl
theorem rC_X11_moveKnobs : e_tb 806 = some (Cond.code yX11_moveKnobs cX11_moveKnobs 6 (some FieldType.int)) := by decide +kernel
theorem m_X11_moveKnobs {X : e_XT} {d : Nat} {args : List Value} {S : e_SS} {Q : e_Rt → e_SS → Prop} (hlen : (e_slx args).length ≤ 6) (j : s_w X d K_X11_moveKnobs 0 (e_ent0 args 6) [] S (fun r S' => e_rcr (some FieldType.int) r = true ∧ Q r S')) : s_c X d 140 args S Q := c_of rM_X11_moveKnobs rC_X11_moveKnobs rfl (fun _ => by contradiction) hlen j
abbrev r_X11_recorded : e_MT := ((yX11_recorded, 15), (0, false), (814, 812, 81, 813))
abbrev K_X11_recorded : e_KT := (15, false, cX11_recorded, 1, [])
theorem rM_X11_recorded : e_M[141]? = some r_X11_recorded := by rfl
theorem rC_X11_recorded : e_tb 814 = some (Cond.code yX11_recorded cX11_recorded 1 (some FieldType.int)) := by decide +kernel
theorem m_X11_recorded {X : e_XT} {d : Nat} {args : List Value} {S : e_SS} {Q : e_Rt → e_SS → Prop} (hlen : (e_slx args).length ≤ 1) (j : s_w X d K_X11_recorded 0 (e_ent0 args 1) [] S (fun r S' => e_rcr (some FieldType.int) r = true ∧ Q r S')) : s_c X d 141 args S Q := c_of rM_X11_recorded rC_X11_recorded rfl (fun _ => by contradiction) hlen j
abbrev r_X11_isTrue : e_MT := ((yX11_isTrue, 15), (0, false), (818, 816, 81, 817))
abbrev K_X11_isTrue : e_KT := (15, false, cX11_isTrue, 1, [])
theorem rM_X11_isTrue : e_M[142]? = some r_X11_isTrue := by rfl
theorem rC_X11_isTrue : e_tb 818 = some (Cond.code yX11_isTrue cX11_isTrue 1 (some FieldType.boolean)) := by decide +kernel
theorem m_X11_isTrue {X : e_XT} {d : Nat} {args : List Value} {S : e_SS} {Q : e_Rt → e_SS → Prop} (hlen : (e_slx args).length ≤ 1) (j : s_w X d K_X11_isTrue 0 (e_ent0 args 1) [] S (fun r S' => e_rcr (some FieldType.boolean) r = true ∧ Q r S')) : s_c X d 142 args S Q := c_of rM_X11_isTrue rC_X11_isTrue rfl (fun _ => by contradiction) hlen j
abbrev r_X11_rank : e_MT := ((yX11_rank, 15), (7, false), (845, 843, 81, 844))
abbrev K_X11_rank : e_KT := (15, false, cX11_rank, 9, [])
theorem rM_X11_rank : e_M[143]? = some r_X11_rank := by rfl
theorem rC_X11_rank : e_tb 845 = some (Cond.code yX11_rank cX11_rank 9 (some FieldType.int)) := by decide +kernel
theorem m_X11_rank {X : e_XT} {d : Nat} {args : List Value} {S : e_SS} {Q : e_Rt → e_SS → Prop} (hlen : (e_slx args).length ≤ 9) (j : s_w X d K_X11_rank 0 (e_ent0 args 9) [] S (fun r S' => e_rcr (some FieldType.int) r = true ∧ Q r S')) : s_c X d 143 args S Q := c_of rM_X11_rank rC_X11_rank rfl (fun _ => by contradiction) hlen j
abbrev r_X11_needRange : e_MT := ((yX11_needRange, 15), (3, true), (848, 847, 81, 9999))
abbrev K_X11_needRange : e_KT := (15, false, cX11_needRange, 3, [])
theorem rM_X11_needRange : e_M[144]? = some r_X11_needRange := by rfl
theorem rC_X11_needRange : e_tb 848 = some (Cond.code yX11_needRange cX11_needRange 3 (none)) := by decide +kernel
theorem m_X11_needRange {X : e_XT} {d : Nat} {args : List Value} {S : e_SS} {Q : e_Rt → e_SS → Prop} (hlen : (e_slx args).length ≤ 3) (j : s_w X d K_X11_needRange 0 (e_ent0 args 3) [] S (fun r S' => e_rcr (none) r = true ∧ Q r S')) : s_c X d 144 args S Q := c_of rM_X11_needRange rC_X11_needRange rfl (fun _ => by contradiction) hlen j
abbrev r_X11_stop : e_MT := ((yX11_stop, 15), (1, false), (1063, 1061, 81, 1062))
abbrev K_X11_stop : e_KT := (15, false, cX11_stop, 2, [])
theorem rM_X11_stop : e_M[145]? = some r_X11_stop := by rfl
theorem rC_X11_stop : e_tb 1063 = some (Cond.code yX11_stop cX11_stop 2 (some FieldType.int)) := by decide +kernel
theorem m_X11_stop {X : e_XT} {d : Nat} {args : List Value} {S : e_SS} {Q : e_Rt → e_SS → Prop} (hlen : (e_slx args).length ≤ 2) (j : s_w X d K_X11_stop 0 (e_ent0 args 2) [] S (fun r S' => e_rcr (some FieldType.int) r = true ∧ Q r S')) : s_c X d 145 args S Q := c_of rM_X11_stop rC_X11_stop rfl (fun _ => by contradiction) hlen j
abbrev r_X11_needDivision : e_MT := ((yX11_needDivision, 15), (1, true), (1066, 1065, 81, 9999))
abbrev K_X11_needDivision : e_KT := (15, false, cX11_needDivision, 1, [])
theorem rM_X11_needDivision : e_M[146]? = some r_X11_needDivision := by rfl
theorem rC_X11_needDivision : e_tb 1066 = some (Cond.code yX11_needDivision cX11_needDivision 1 (none)) := by decide +kernel
theorem m_X11_needDivision {X : e_XT} {d : Nat} {args : List Value} {S : e_SS} {Q : e_Rt → e_SS → Prop} (hlen : (e_slx args).length ≤ 1) (j : s_w X d K_X11_needDivision 0 (e_ent0 args 1) [] S (fun r S' => e_rcr (none) r = true ∧ Q r S')) : s_c X d 146 args S Q := c_of rM_X11_needDivision rC_X11_needDivision rfl (fun _ => by contradiction) hlen j
abbrev r_X11_needRoomForKnob : e_MT := ((yX11_needRoomForKnob, 15), (0, false), (1084, 1083, 81, 18))
abbrev K_X11_needRoomForKnob : e_KT := (15, false, cX11_needRoomForKnob, 1, [])
theorem rM_X11_needRoomForKnob : e_M[147]? = some r_X11_needRoomForKnob := by rfl
theorem rC_X11_needRoomForKnob : e_tb 1084 = some (Cond.code yX11_needRoomForKnob cX11_needRoomForKnob 1 (none)) := by decide +kernel
theorem m_X11_needRoomForKnob {X : e_XT} {d : Nat} {args : List Value} {S : e_SS} {Q : e_Rt → e_SS → Prop} (hlen : (e_slx args).length ≤ 1) (j : s_w X d K_X11_needRoomForKnob 0 (e_ent0 args 1) [] S (fun r S' => e_rcr (none) r = true ∧ Q r S')) : s_c X d 147 args S Q := c_of rM_X11_needRoomForKnob rC_X11_needRoomForKnob rfl (fun _ => by contradiction) hlen j
abbrev r_X11_addKnob : e_MT := ((yX11_addKnob, 15), (1, false), (1124, 1123, 81, 19))
abbrev K_X11_addKnob : e_KT := (15, false, cX11_addKnob, 2, [])
theorem rM_X11_addKnob : e_M[148]? = some r_X11_addKnob := by rfl
theorem rC_X11_addKnob : e_tb 1124 = some (Cond.code yX11_addKnob cX11_addKnob 2 (some FieldType.int)) := by decide +kernel
theorem m_X11_addKnob {X : e_XT} {d : Nat} {args : List Value} {S : e_SS} {Q : e_Rt → e_SS → Prop} (hlen : (e_slx args).length ≤ 2) (j : s_w X d K_X11_addKnob 0 (e_ent0 args 2) [] S (fun r S' => e_rcr (some FieldType.int) r = true ∧ Q r S')) : s_c X d 148 args S Q := c_of rM_X11_addKnob rC_X11_addKnob rfl (fun _ => by contradiction) hlen j
abbrev r_X11_row : e_MT := ((yX11_row, 15), (5, false), (1132, 1130, 81, 1131))
abbrev K_X11_row : e_KT := (15, false, cX11_row, 8, [])
theorem rM_X11_row : e_M[149]? = some r_X11_row := by rfl
theorem rC_X11_row : e_tb 1132 = some (Cond.code yX11_row cX11_row 8 (some FieldType.int)) := by decide +kernel
theorem m_X11_row {X : e_XT} {d : Nat} {args : List Value} {S : e_SS} {Q : e_Rt → e_SS → Prop} (hlen : (e_slx args).length ≤ 8) (j : s_w X d K_X11_row 0 (e_ent0 args 8) [] S (fun r S' => e_rcr (some FieldType.int) r = true ∧ Q r S')) : s_c X d 149 args S Q := c_of rM_X11_row rC_X11_row rfl (fun _ => by contradiction) hlen j
abbrev r_X11_needKnob : e_MT := ((yX11_needKnob, 15), (1, false), (1136, 1135, 81, 20))
abbrev K_X11_needKnob : e_KT := (15, false, cX11_needKnob, 3, [])
theorem rM_X11_needKnob : e_M[150]? = some r_X11_needKnob := by rfl
theorem rC_X11_needKnob : e_tb 1136 = some (Cond.code yX11_needKnob cX11_needKnob 3 (some (FieldType.object "Rankhall$Knob"))) := by decide +kernel
theorem m_X11_needKnob {X : e_XT} {d : Nat} {args : List Value} {S : e_SS} {Q : e_Rt → e_SS → Prop} (hlen : (e_slx args).length ≤ 3) (j : s_w X d K_X11_needKnob 0 (e_ent0 args 3) [] S (fun r S' => e_rcr (some (FieldType.object "Rankhall$Knob")) r = true ∧ Q r S')) : s_c X d 150 args S Q := c_of rM_X11_needKnob rC_X11_needKnob rfl (fun _ => by contradiction) hlen j
abbrev r_X11_needRank : e_MT := ((yX11_needRank, 15), (1, false), (1142, 1141, 81, 21))
abbrev K_X11_needRank : e_KT := (15, false, cX11_needRank, 3, [])
theorem rM_X11_needRank : e_M[151]? = some r_X11_needRank := by rfl
theorem rC_X11_needRank : e_tb 1142 = some (Cond.code yX11_needRank cX11_needRank 3 (some (FieldType.object "Rankhall$Rank"))) := by decide +kernel
theorem m_X11_needRank {X : e_XT} {d : Nat} {args : List Value} {S : e_SS} {Q : e_Rt → e_SS → Prop} (hlen : (e_slx args).length ≤ 3) (j : s_w X d K_X11_needRank 0 (e_ent0 args 3) [] S (fun r S' => e_rcr (some (FieldType.object "Rankhall$Rank")) r = true ∧ Q r S')) : s_c X d 151 args S Q := c_of rM_X11_needRank rC_X11_needRank rfl (fun _ => by contradiction) hlen j
abbrev r_X11_needStop : e_MT := ((yX11_needStop, 15), (1, true), (1150, 1149, 81, 9999))
abbrev K_X11_needStop : e_KT := (15, false, cX11_needStop, 1, [])
theorem rM_X11_needStop : e_M[152]? = some r_X11_needStop := by rfl
theorem rC_X11_needStop : e_tb 1150 = some (Cond.code yX11_needStop cX11_needStop 1 (some (FieldType.object "Rankhall$Stop"))) := by decide +kernel
theorem m_X11_needStop {X : e_XT} {d : Nat} {args : List Value} {S : e_SS} {Q : e_Rt → e_SS → Prop} (hlen : (e_slx args).length ≤ 1) (j : s_w X d K_X11_needStop 0 (e_ent0 args 1) [] S (fun r S' => e_rcr (some (FieldType.object "Rankhall$Stop")) r = true ∧ Q r S')) : s_c X d 152 args S Q := c_of rM_X11_needStop rC_X11_needStop rfl (fun _ => by contradiction) hlen j
abbrev r_X11_cross : e_MT := ((yX11_cross, 15), (3, false), (1178, 1176, 81, 1177))
abbrev K_X11_cross : e_KT := (15, false, cX11_cross, 6, [])
theorem rM_X11_cross : e_M[153]? = some r_X11_cross := by rfl
theorem rC_X11_cross : e_tb 1178 = some (Cond.code yX11_cross cX11_cross 6 (some FieldType.int)) := by decide +kernel
theorem m_X11_cross {X : e_XT} {d : Nat} {args : List Value} {S : e_SS} {Q : e_Rt → e_SS → Prop} (hlen : (e_slx args).length ≤ 6) (j : s_w X d K_X11_cross 0 (e_ent0 args 6) [] S (fun r S' => e_rcr (some FieldType.int) r = true ∧ Q r S')) : s_c X d 153 args S Q := c_of rM_X11_cross rC_X11_cross rfl (fun _ => by contradiction) hlen j
abbrev r_X11_coupler : e_MT := ((yX11_coupler, 15), (4, false), (1198, 1196, 81, 1197))
abbrev K_X11_coupler : e_KT := (15, false, cX11_coupler, 7, [])
theorem rM_X11_coupler : e_M[154]? = some r_X11_coupler := by rfl
theorem rC_X11_coupler : e_tb 1198 = some (Cond.code yX11_coupler cX11_coupler 7 (some FieldType.int)) := by decide +kernel
theorem m_X11_coupler {X : e_XT} {d : Nat} {args : List Value} {S : e_SS} {Q : e_Rt → e_SS → Prop} (hlen : (e_slx args).length ≤ 7) (j : s_w X d K_X11_coupler 0 (e_ent0 args 7) [] S (fun r S' => e_rcr (some FieldType.int) r = true ∧ Q r S')) : s_c X d 154 args S Q := c_of rM_X11_coupler rC_X11_coupler rfl (fun _ => by contradiction) hlen j
abbrev r_X11_tremulant : e_MT := ((yX11_tremulant, 15), (1, false), (1208, 1206, 81, 1207))
abbrev K_X11_tremulant : e_KT := (15, false, cX11_tremulant, 2, [])
theorem rM_X11_tremulant : e_M[155]? = some r_X11_tremulant := by rfl
theorem rC_X11_tremulant : e_tb 1208 = some (Cond.code yX11_tremulant cX11_tremulant 2 (some FieldType.int)) := by decide +kernel
theorem m_X11_tremulant {X : e_XT} {d : Nat} {args : List Value} {S : e_SS} {Q : e_Rt → e_SS → Prop} (hlen : (e_slx args).length ≤ 2) (j : s_w X d K_X11_tremulant 0 (e_ent0 args 2) [] S (fun r S' => e_rcr (some FieldType.int) r = true ∧ Q r S')) : s_c X d 155 args S Q := c_of rM_X11_tremulant rC_X11_tremulant rfl (fun _ => by contradiction) hlen j
abbrev r_X11_draw : e_MT := ((yX11_draw, 15), (2, false), (1215, 1213, 81, 1214))
abbrev K_X11_draw : e_KT := (15, false, cX11_draw, 5, [])
theorem rM_X11_draw : e_M[156]? = some r_X11_draw := by rfl
theorem rC_X11_draw : e_tb 1215 = some (Cond.code yX11_draw cX11_draw 5 (some FieldType.boolean)) := by decide +kernel
theorem m_X11_draw {X : e_XT} {d : Nat} {args : List Value} {S : e_SS} {Q : e_Rt → e_SS → Prop} (hlen : (e_slx args).length ≤ 5) (j : s_w X d K_X11_draw 0 (e_ent0 args 5) [] S (fun r S' => e_rcr (some FieldType.boolean) r = true ∧ Q r S')) : s_c X d 156 args S Q := c_of rM_X11_draw rC_X11_draw rfl (fun _ => by contradiction) hlen j
abbrev r_X11_isDrawn : e_MT := ((yX11_isDrawn, 15), (1, false), (1222, 1220, 81, 1221))
abbrev K_X11_isDrawn : e_KT := (15, false, cX11_isDrawn, 2, [])
theorem rM_X11_isDrawn : e_M[157]? = some r_X11_isDrawn := by rfl
theorem rC_X11_isDrawn : e_tb 1222 = some (Cond.code yX11_isDrawn cX11_isDrawn 2 (some FieldType.boolean)) := by decide +kernel
theorem m_X11_isDrawn {X : e_XT} {d : Nat} {args : List Value} {S : e_SS} {Q : e_Rt → e_SS → Prop} (hlen : (e_slx args).length ≤ 2) (j : s_w X d K_X11_isDrawn 0 (e_ent0 args 2) [] S (fun r S' => e_rcr (some FieldType.boolean) r = true ∧ Q r S')) : s_c X d 157 args S Q := c_of rM_X11_isDrawn rC_X11_isDrawn rfl (fun _ => by contradiction) hlen j
abbrev r_X11_isOn : e_MT := ((yX11_isOn, 15), (1, false), (1229, 1227, 81, 1228))
abbrev K_X11_isOn : e_KT := (15, false, cX11_isOn, 3, [])
theorem rM_X11_isOn : e_M[158]? = some r_X11_isOn := by rfl
theorem rC_X11_isOn : e_tb 1229 = some (Cond.code yX11_isOn cX11_isOn 3 (some FieldType.boolean)) := by decide +kernel
theorem m_X11_isOn {X : e_XT} {d : Nat} {args : List Value} {S : e_SS} {Q : e_Rt → e_SS → Prop} (hlen : (e_slx args).length ≤ 3) (j : s_w X d K_X11_isOn 0 (e_ent0 args 3) [] S (fun r S' => e_rcr (some FieldType.boolean) r = true ∧ Q r S')) : s_c X d 158 args S Q := c_of rM_X11_isOn rC_X11_isOn rfl (fun _ => by contradiction) hlen j
abbrev r_X11_lock : e_MT := ((yX11_lock, 15), (2, false), (1237, 1235, 81, 1236))
abbrev K_X11_lock : e_KT := (15, false, cX11_lock, 5, [])
theorem rM_X11_lock : e_M[159]? = some r_X11_lock := by rfl
theorem rC_X11_lock : e_tb 1237 = some (Cond.code yX11_lock cX11_lock 5 (some FieldType.boolean)) := by decide +kernel
theorem m_X11_lock {X : e_XT} {d : Nat} {args : List Value} {S : e_SS} {Q : e_Rt → e_SS → Prop} (hlen : (e_slx args).length ≤ 5) (j : s_w X d K_X11_lock 0 (e_ent0 args 5) [] S (fun r S' => e_rcr (some FieldType.boolean) r = true ∧ Q r S')) : s_c X d 159 args S Q := c_of rM_X11_lock rC_X11_lock rfl (fun _ => by contradiction) hlen j
abbrev r_X11_stage : e_MT := ((yX11_stage, 15), (2, false), (1244, 1242, 81, 1243))
abbrev K_X11_stage : e_KT := (15, false, cX11_stage, 6, [])
theorem rM_X11_stage : e_M[160]? = some r_X11_stage := by rfl
theorem rC_X11_stage : e_tb 1244 = some (Cond.code yX11_stage cX11_stage 6 (some FieldType.int)) := by decide +kernel
theorem m_X11_stage {X : e_XT} {d : Nat} {args : List Value} {S : e_SS} {Q : e_Rt → e_SS → Prop} (hlen : (e_slx args).length ≤ 6) (j : s_w X d K_X11_stage 0 (e_ent0 args 6) [] S (fun r S' => e_rcr (some FieldType.int) r = true ∧ Q r S')) : s_c X d 160 args S Q := c_of rM_X11_stage rC_X11_stage rfl (fun _ => by contradiction) hlen j
abbrev r_X11_crescendo : e_MT := ((yX11_crescendo, 15), (1, false), (1251, 1249, 81, 1250))
abbrev K_X11_crescendo : e_KT := (15, false, cX11_crescendo, 3, [])
theorem rM_X11_crescendo : e_M[161]? = some r_X11_crescendo := by rfl
theorem rC_X11_crescendo : e_tb 1251 = some (Cond.code yX11_crescendo cX11_crescendo 3 (some FieldType.int)) := by decide +kernel
theorem m_X11_crescendo {X : e_XT} {d : Nat} {args : List Value} {S : e_SS} {Q : e_Rt → e_SS → Prop} (hlen : (e_slx args).length ≤ 3) (j : s_w X d K_X11_crescendo 0 (e_ent0 args 3) [] S (fun r S' => e_rcr (some FieldType.int) r = true ∧ Q r S')) : s_c X d 161 args S Q := c_of rM_X11_crescendo rC_X11_crescendo rfl (fun _ => by contradiction) hlen j
abbrev r_X11_key : e_MT := ((yX11_key, 15), (3, false), (1258, 1256, 81, 1257))
abbrev K_X11_key : e_KT := (15, false, cX11_key, 5, [])
theorem rM_X11_key : e_M[162]? = some r_X11_key := by rfl
theorem rC_X11_key : e_tb 1258 = some (Cond.code yX11_key cX11_key 5 (some FieldType.boolean)) := by decide +kernel
theorem m_X11_key {X : e_XT} {d : Nat} {args : List Value} {S : e_SS} {Q : e_Rt → e_SS → Prop} (hlen : (e_slx args).length ≤ 5) (j : s_w X d K_X11_key 0 (e_ent0 args 5) [] S (fun r S' => e_rcr (some FieldType.boolean) r = true ∧ Q r S')) : s_c X d 162 args S Q := c_of rM_X11_key rC_X11_key rfl (fun _ => by contradiction) hlen j
abbrev r_X11_needKey : e_MT := ((yX11_needKey, 15), (2, true), (1261, 1260, 81, 9999))
abbrev K_X11_needKey : e_KT := (15, false, cX11_needKey, 2, [])
theorem rM_X11_needKey : e_M[163]? = some r_X11_needKey := by rfl
theorem rC_X11_needKey : e_tb 1261 = some (Cond.code yX11_needKey cX11_needKey 2 (none)) := by decide +kernel
theorem m_X11_needKey {X : e_XT} {d : Nat} {args : List Value} {S : e_SS} {Q : e_Rt → e_SS → Prop} (hlen : (e_slx args).length ≤ 2) (j : s_w X d K_X11_needKey 0 (e_ent0 args 2) [] S (fun r S' => e_rcr (none) r = true ∧ Q r S')) : s_c X d 163 args S Q := c_of rM_X11_needKey rC_X11_needKey rfl (fun _ => by contradiction) hlen j
abbrev r_X11_isDown : e_MT := ((yX11_isDown, 15), (2, false), (1272, 1270, 81, 1271))
abbrev K_X11_isDown : e_KT := (15, false, cX11_isDown, 3, [])
theorem rM_X11_isDown : e_M[164]? = some r_X11_isDown := by rfl
theorem rC_X11_isDown : e_tb 1272 = some (Cond.code yX11_isDown cX11_isDown 3 (some FieldType.boolean)) := by decide +kernel
theorem m_X11_isDown {X : e_XT} {d : Nat} {args : List Value} {S : e_SS} {Q : e_Rt → e_SS → Prop} (hlen : (e_slx args).length ≤ 3) (j : s_w X d K_X11_isDown 0 (e_ent0 args 3) [] S (fun r S' => e_rcr (some FieldType.boolean) r = true ∧ Q r S')) : s_c X d 164 args S Q := c_of rM_X11_isDown rC_X11_isDown rfl (fun _ => by contradiction) hlen j
abbrev r_X11_pass : e_MT := ((yX11_pass, 15), (1, false), (1279, 1277, 81, 1278))
abbrev K_X11_pass : e_KT := (15, false, cX11_pass, 2, [])
theorem rM_X11_pass : e_M[165]? = some r_X11_pass := by rfl
theorem rC_X11_pass : e_tb 1279 = some (Cond.code yX11_pass cX11_pass 2 (some FieldType.int)) := by decide +kernel
theorem m_X11_pass {X : e_XT} {d : Nat} {args : List Value} {S : e_SS} {Q : e_Rt → e_SS → Prop} (hlen : (e_slx args).length ≤ 2) (j : s_w X d K_X11_pass 0 (e_ent0 args 2) [] S (fun r S' => e_rcr (some FieldType.int) r = true ∧ Q r S')) : s_c X d 165 args S Q := c_of rM_X11_pass rC_X11_pass rfl (fun _ => by contradiction) hlen j
abbrev r_X11_reasons : e_MT := ((yX11_reasons, 15), (2, false), (1298, 1296, 81, 1297))
abbrev K_X11_reasons : e_KT := (15, false, cX11_reasons, 3, [])
theorem rM_X11_reasons : e_M[166]? = some r_X11_reasons := by rfl
theorem rC_X11_reasons : e_tb 1298 = some (Cond.code yX11_reasons cX11_reasons 3 (some FieldType.int)) := by decide +kernel
theorem m_X11_reasons {X : e_XT} {d : Nat} {args : List Value} {S : e_SS} {Q : e_Rt → e_SS → Prop} (hlen : (e_slx args).length ≤ 3) (j : s_w X d K_X11_reasons 0 (e_ent0 args 3) [] S (fun r S' => e_rcr (some FieldType.int) r = true ∧ Q r S')) : s_c X d 166 args S Q := c_of rM_X11_reasons rC_X11_reasons rfl (fun _ => by contradiction) hlen j
abbrev r_X11_needPipe : e_MT := ((yX11_needPipe, 15), (2, false), (1302, 1301, 81, 25))
abbrev K_X11_needPipe : e_KT := (15, false, cX11_needPipe, 4, [])
theorem rM_X11_needPipe : e_M[167]? = some r_X11_needPipe := by rfl
theorem rC_X11_needPipe : e_tb 1302 = some (Cond.code yX11_needPipe cX11_needPipe 4 (some (FieldType.object "Rankhall$Pipe"))) := by decide +kernel
theorem m_X11_needPipe {X : e_XT} {d : Nat} {args : List Value} {S : e_SS} {Q : e_Rt → e_SS → Prop} (hlen : (e_slx args).length ≤ 4) (j : s_w X d K_X11_needPipe 0 (e_ent0 args 4) [] S (fun r S' => e_rcr (some (FieldType.object "Rankhall$Pipe")) r = true ∧ Q r S')) : s_c X d 167 args S Q := c_of rM_X11_needPipe rC_X11_needPipe rfl (fun _ => by contradiction) hlen j
abbrev r_X11_reasonsAnew : e_MT := ((yX11_reasonsAnew, 15), (2, false), (1312, 1310, 81, 1311))
abbrev K_X11_reasonsAnew : e_KT := (15, false, cX11_reasonsAnew, 3, [])
theorem rM_X11_reasonsAnew : e_M[168]? = some r_X11_reasonsAnew := by rfl
theorem rC_X11_reasonsAnew : e_tb 1312 = some (Cond.code yX11_reasonsAnew cX11_reasonsAnew 3 (some FieldType.int)) := by decide +kernel
theorem m_X11_reasonsAnew {X : e_XT} {d : Nat} {args : List Value} {S : e_SS} {Q : e_Rt → e_SS → Prop} (hlen : (e_slx args).length ≤ 3) (j : s_w X d K_X11_reasonsAnew 0 (e_ent0 args 3) [] S (fun r S' => e_rcr (some FieldType.int) r = true ∧ Q r S')) : s_c X d 168 args S Q := c_of rM_X11_reasonsAnew rC_X11_reasonsAnew rfl (fun _ => by contradiction) hlen j
abbrev r_X11_isOpen : e_MT := ((yX11_isOpen, 15), (2, false), (1320, 1318, 81, 1319))
abbrev K_X11_isOpen : e_KT := (15, false, cX11_isOpen, 3, [])
theorem rM_X11_isOpen : e_M[169]? = some r_X11_isOpen := by rfl
theorem rC_X11_isOpen : e_tb 1320 = some (Cond.code yX11_isOpen cX11_isOpen 3 (some FieldType.boolean)) := by decide +kernel
theorem m_X11_isOpen {X : e_XT} {d : Nat} {args : List Value} {S : e_SS} {Q : e_Rt → e_SS → Prop} (hlen : (e_slx args).length ≤ 3) (j : s_w X d K_X11_isOpen 0 (e_ent0 args 3) [] S (fun r S' => e_rcr (some FieldType.boolean) r = true ∧ Q r S')) : s_c X d 169 args S Q := c_of rM_X11_isOpen rC_X11_isOpen rfl (fun _ => by contradiction) hlen j
abbrev r_X11_speaks : e_MT := ((yX11_speaks, 15), (2, false), (1327, 1325, 81, 1326))
abbrev K_X11_speaks : e_KT := (15, false, cX11_speaks, 3, [])
theorem rM_X11_speaks : e_M[170]? = some r_X11_speaks := by rfl
theorem rC_X11_speaks : e_tb 1327 = some (Cond.code yX11_speaks cX11_speaks 3 (some FieldType.boolean)) := by decide +kernel
theorem m_X11_speaks {X : e_XT} {d : Nat} {args : List Value} {S : e_SS} {Q : e_Rt → e_SS → Prop} (hlen : (e_slx args).length ≤ 3) (j : s_w X d K_X11_speaks 0 (e_ent0 args 3) [] S (fun r S' => e_rcr (some FieldType.boolean) r = true ∧ Q r S')) : s_c X d 170 args S Q := c_of rM_X11_speaks rC_X11_speaks rfl (fun _ => by contradiction) hlen j
abbrev r_X11_begun : e_MT := ((yX11_begun, 15), (2, false), (1334, 1332, 81, 1333))
abbrev K_X11_begun : e_KT := (15, false, cX11_begun, 3, [])
theorem rM_X11_begun : e_M[171]? = some r_X11_begun := by rfl
theorem rC_X11_begun : e_tb 1334 = some (Cond.code yX11_begun cX11_begun 3 (some FieldType.int)) := by decide +kernel
theorem m_X11_begun {X : e_XT} {d : Nat} {args : List Value} {S : e_SS} {Q : e_Rt → e_SS → Prop} (hlen : (e_slx args).length ≤ 3) (j : s_w X d K_X11_begun 0 (e_ent0 args 3) [] S (fun r S' => e_rcr (some FieldType.int) r = true ∧ Q r S')) : s_c X d 171 args S Q := c_of rM_X11_begun rC_X11_begun rfl (fun _ => by contradiction) hlen j
abbrev r_X11_supply : e_MT := ((yX11_supply, 15), (2, false), (1341, 1339, 81, 1340))
abbrev K_X11_supply : e_KT := (15, false, cX11_supply, 4, [])
theorem rM_X11_supply : e_M[172]? = some r_X11_supply := by rfl
theorem rC_X11_supply : e_tb 1341 = some (Cond.code yX11_supply cX11_supply 4 (some FieldType.int)) := by decide +kernel
theorem m_X11_supply {X : e_XT} {d : Nat} {args : List Value} {S : e_SS} {Q : e_Rt → e_SS → Prop} (hlen : (e_slx args).length ≤ 4) (j : s_w X d K_X11_supply 0 (e_ent0 args 4) [] S (fun r S' => e_rcr (some FieldType.int) r = true ∧ Q r S')) : s_c X d 172 args S Q := c_of rM_X11_supply rC_X11_supply rfl (fun _ => by contradiction) hlen j
abbrev r_X11_wind : e_MT := ((yX11_wind, 15), (1, false), (1348, 1346, 81, 1347))
abbrev K_X11_wind : e_KT := (15, false, cX11_wind, 2, [])
theorem rM_X11_wind : e_M[173]? = some r_X11_wind := by rfl
theorem rC_X11_wind : e_tb 1348 = some (Cond.code yX11_wind cX11_wind 2 (some FieldType.int)) := by decide +kernel
theorem m_X11_wind {X : e_XT} {d : Nat} {args : List Value} {S : e_SS} {Q : e_Rt → e_SS → Prop} (hlen : (e_slx args).length ≤ 2) (j : s_w X d K_X11_wind 0 (e_ent0 args 2) [] S (fun r S' => e_rcr (some FieldType.int) r = true ∧ Q r S')) : s_c X d 173 args S Q := c_of rM_X11_wind rC_X11_wind rfl (fun _ => by contradiction) hlen j
abbrev r_X11_box : e_MT := ((yX11_box, 15), (2, false), (1355, 1353, 81, 1354))
abbrev K_X11_box : e_KT := (15, false, cX11_box, 4, [])
theorem rM_X11_box : e_M[174]? = some r_X11_box := by rfl
theorem rC_X11_box : e_tb 1355 = some (Cond.code yX11_box cX11_box 4 (some FieldType.int)) := by decide +kernel
theorem m_X11_box {X : e_XT} {d : Nat} {args : List Value} {S : e_SS} {Q : e_Rt → e_SS → Prop} (hlen : (e_slx args).length ≤ 4) (j : s_w X d K_X11_box 0 (e_ent0 args 4) [] S (fun r S' => e_rcr (some FieldType.int) r = true ∧ Q r S')) : s_c X d 174 args S Q := c_of rM_X11_box rC_X11_box rfl (fun _ => by contradiction) hlen j
abbrev r_X11_temper : e_MT := ((yX11_temper, 15), (2, false), (1362, 1360, 81, 1361))
abbrev K_X11_temper : e_KT := (15, false, cX11_temper, 4, [])
theorem rM_X11_temper : e_M[175]? = some r_X11_temper := by rfl
theorem rC_X11_temper : e_tb 1362 = some (Cond.code yX11_temper cX11_temper 4 (some FieldType.int)) := by decide +kernel
theorem m_X11_temper {X : e_XT} {d : Nat} {args : List Value} {S : e_SS} {Q : e_Rt → e_SS → Prop} (hlen : (e_slx args).length ≤ 4) (j : s_w X d K_X11_temper 0 (e_ent0 args 4) [] S (fun r S' => e_rcr (some FieldType.int) r = true ∧ Q r S')) : s_c X d 175 args S Q := c_of rM_X11_temper rC_X11_temper rfl (fun _ => by contradiction) hlen j
abbrev r_X11_tune : e_MT := ((yX11_tune, 15), (3, false), (1369, 1367, 81, 1368))
abbrev K_X11_tune : e_KT := (15, false, cX11_tune, 6, [])
theorem rM_X11_tune : e_M[176]? = some r_X11_tune := by rfl
theorem rC_X11_tune : e_tb 1369 = some (Cond.code yX11_tune cX11_tune 6 (some FieldType.int)) := by decide +kernel
theorem m_X11_tune {X : e_XT} {d : Nat} {args : List Value} {S : e_SS} {Q : e_Rt → e_SS → Prop} (hlen : (e_slx args).length ≤ 6) (j : s_w X d K_X11_tune 0 (e_ent0 args 6) [] S (fun r S' => e_rcr (some FieldType.int) r = true ∧ Q r S')) : s_c X d 176 args S Q := c_of rM_X11_tune rC_X11_tune rfl (fun _ => by contradiction) hlen j
abbrev r_X11_tuneTo : e_MT := ((yX11_tuneTo, 15), (4, false), (1376, 1374, 81, 1375))
abbrev K_X11_tuneTo : e_KT := (15, false, cX11_tuneTo, 7, [])
theorem rM_X11_tuneTo : e_M[177]? = some r_X11_tuneTo := by rfl
theorem rC_X11_tuneTo : e_tb 1376 = some (Cond.code yX11_tuneTo cX11_tuneTo 7 (some FieldType.int)) := by decide +kernel
theorem m_X11_tuneTo {X : e_XT} {d : Nat} {args : List Value} {S : e_SS} {Q : e_Rt → e_SS → Prop} (hlen : (e_slx args).length ≤ 7) (j : s_w X d K_X11_tuneTo 0 (e_ent0 args 7) [] S (fun r S' => e_rcr (some FieldType.int) r = true ∧ Q r S')) : s_c X d 177 args S Q := c_of rM_X11_tuneTo rC_X11_tuneTo rfl (fun _ => by contradiction) hlen j
abbrev r_X11_heat : e_MT := ((yX11_heat, 15), (3, false), (1390, 1388, 81, 1389))
abbrev K_X11_heat : e_KT := (15, false, cX11_heat, 6, [])
theorem rM_X11_heat : e_M[178]? = some r_X11_heat := by rfl
theorem rC_X11_heat : e_tb 1390 = some (Cond.code yX11_heat cX11_heat 6 (some FieldType.int)) := by decide +kernel
theorem m_X11_heat {X : e_XT} {d : Nat} {args : List Value} {S : e_SS} {Q : e_Rt → e_SS → Prop} (hlen : (e_slx args).length ≤ 6) (j : s_w X d K_X11_heat 0 (e_ent0 args 6) [] S (fun r S' => e_rcr (some FieldType.int) r = true ∧ Q r S')) : s_c X d 178 args S Q := c_of rM_X11_heat rC_X11_heat rfl (fun _ => by contradiction) hlen j
abbrev r_X11_pitch : e_MT := ((yX11_pitch, 15), (2, false), (1397, 1395, 81, 1396))
abbrev K_X11_pitch : e_KT := (15, false, cX11_pitch, 3, [])
theorem rM_X11_pitch : e_M[179]? = some r_X11_pitch := by rfl
theorem rC_X11_pitch : e_tb 1397 = some (Cond.code yX11_pitch cX11_pitch 3 (some FieldType.int)) := by decide +kernel
theorem m_X11_pitch {X : e_XT} {d : Nat} {args : List Value} {S : e_SS} {Q : e_Rt → e_SS → Prop} (hlen : (e_slx args).length ≤ 3) (j : s_w X d K_X11_pitch 0 (e_ent0 args 3) [] S (fun r S' => e_rcr (some FieldType.int) r = true ∧ Q r S')) : s_c X d 179 args S Q := c_of rM_X11_pitch rC_X11_pitch rfl (fun _ => by contradiction) hlen j
abbrev r_X11_fault : e_MT := ((yX11_fault, 15), (3, false), (1404, 1402, 81, 1403))
abbrev K_X11_fault : e_KT := (15, false, cX11_fault, 6, [])
theorem rM_X11_fault : e_M[180]? = some r_X11_fault := by rfl
theorem rC_X11_fault : e_tb 1404 = some (Cond.code yX11_fault cX11_fault 6 (some FieldType.char)) := by decide +kernel
theorem m_X11_fault {X : e_XT} {d : Nat} {args : List Value} {S : e_SS} {Q : e_Rt → e_SS → Prop} (hlen : (e_slx args).length ≤ 6) (j : s_w X d K_X11_fault 0 (e_ent0 args 6) [] S (fun r S' => e_rcr (some FieldType.char) r = true ∧ Q r S')) : s_c X d 180 args S Q := c_of rM_X11_fault rC_X11_fault rfl (fun _ => by contradiction) hlen j
abbrev r_X11_hunt : e_MT := ((yX11_hunt, 15), (1, false), (1412, 1410, 81, 1411))
abbrev K_X11_hunt : e_KT := (15, false, cX11_hunt, 2, [])
theorem rM_X11_hunt : e_M[181]? = some r_X11_hunt := by rfl
theorem rC_X11_hunt : e_tb 1412 = some (Cond.code yX11_hunt cX11_hunt 2 (some FieldType.int)) := by decide +kernel
theorem m_X11_hunt {X : e_XT} {d : Nat} {args : List Value} {S : e_SS} {Q : e_Rt → e_SS → Prop} (hlen : (e_slx args).length ≤ 2) (j : s_w X d K_X11_hunt 0 (e_ent0 args 2) [] S (fun r S' => e_rcr (some FieldType.int) r = true ∧ Q r S')) : s_c X d 181 args S Q := c_of rM_X11_hunt rC_X11_hunt rfl (fun _ => by contradiction) hlen j
abbrev r_X11_guest : e_MT := ((yX11_guest, 15), (1, false), (1429, 1427, 81, 1428))
abbrev K_X11_guest : e_KT := (15, false, cX11_guest, 2, [])
theorem rM_X11_guest : e_M[182]? = some r_X11_guest := by rfl
theorem rC_X11_guest : e_tb 1429 = some (Cond.code yX11_guest cX11_guest 2 (some FieldType.int)) := by decide +kernel
theorem m_X11_guest {X : e_XT} {d : Nat} {args : List Value} {S : e_SS} {Q : e_Rt → e_SS → Prop} (hlen : (e_slx args).length ≤ 2) (j : s_w X d K_X11_guest 0 (e_ent0 args 2) [] S (fun r S' => e_rcr (some FieldType.int) r = true ∧ Q r S')) : s_c X d 182 args S Q := c_of rM_X11_guest rC_X11_guest rfl (fun _ => by contradiction) hlen j
abbrev r_X11_claim : e_MT := ((yX11_claim, 15), (1, false), (1440, 1438, 81, 1439))
abbrev K_X11_claim : e_KT := (15, false, cX11_claim, 3, [])
theorem rM_X11_claim : e_M[183]? = some r_X11_claim := by rfl
theorem rC_X11_claim : e_tb 1440 = some (Cond.code yX11_claim cX11_claim 3 (some FieldType.boolean)) := by decide +kernel
theorem m_X11_claim {X : e_XT} {d : Nat} {args : List Value} {S : e_SS} {Q : e_Rt → e_SS → Prop} (hlen : (e_slx args).length ≤ 3) (j : s_w X d K_X11_claim 0 (e_ent0 args 3) [] S (fun r S' => e_rcr (some FieldType.boolean) r = true ∧ Q r S')) : s_c X d 183 args S Q := c_of rM_X11_claim rC_X11_claim rfl (fun _ => by contradiction) hlen j
abbrev r_X11_needOwnLevel : e_MT := ((yX11_needOwnLevel, 15), (0, false), (1444, 1443, 81, 26))
abbrev K_X11_needOwnLevel : e_KT := (15, false, cX11_needOwnLevel, 1, [])
theorem rM_X11_needOwnLevel : e_M[184]? = some r_X11_needOwnLevel := by rfl
theorem rC_X11_needOwnLevel : e_tb 1444 = some (Cond.code yX11_needOwnLevel cX11_needOwnLevel 1 (none)) := by decide +kernel
theorem m_X11_needOwnLevel {X : e_XT} {d : Nat} {args : List Value} {S : e_SS} {Q : e_Rt → e_SS → Prop} (hlen : (e_slx args).length ≤ 1) (j : s_w X d K_X11_needOwnLevel 0 (e_ent0 args 1) [] S (fun r S' => e_rcr (none) r = true ∧ Q r S')) : s_c X d 184 args S Q := c_of rM_X11_needOwnLevel rC_X11_needOwnLevel rfl (fun _ => by contradiction) hlen j
abbrev r_X11_level : e_MT := ((yX11_level, 15), (1, false), (1465, 1463, 81, 1464))
abbrev K_X11_level : e_KT := (15, false, cX11_level, 2, [])
theorem rM_X11_level : e_M[185]? = some r_X11_level := by rfl
theorem rC_X11_level : e_tb 1465 = some (Cond.code yX11_level cX11_level 2 (some FieldType.int)) := by decide +kernel
theorem m_X11_level {X : e_XT} {d : Nat} {args : List Value} {S : e_SS} {Q : e_Rt → e_SS → Prop} (hlen : (e_slx args).length ≤ 2) (j : s_w X d K_X11_level 0 (e_ent0 args 2) [] S (fun r S' => e_rcr (some FieldType.int) r = true ∧ Q r S')) : s_c X d 185 args S Q := c_of rM_X11_level rC_X11_level rfl (fun _ => by contradiction) hlen j
abbrev r_X11_scope : e_MT := ((yX11_scope, 15), (2, false), (1476, 1474, 81, 1475))
abbrev K_X11_scope : e_KT := (15, false, cX11_scope, 5, [])
theorem rM_X11_scope : e_M[186]? = some r_X11_scope := by rfl
theorem rC_X11_scope : e_tb 1476 = some (Cond.code yX11_scope cX11_scope 5 (some FieldType.boolean)) := by decide +kernel
theorem m_X11_scope {X : e_XT} {d : Nat} {args : List Value} {S : e_SS} {Q : e_Rt → e_SS → Prop} (hlen : (e_slx args).length ≤ 5) (j : s_w X d K_X11_scope 0 (e_ent0 args 5) [] S (fun r S' => e_rcr (some FieldType.boolean) r = true ∧ Q r S')) : s_c X d 186 args S Q := c_of rM_X11_scope rC_X11_scope rfl (fun _ => by contradiction) hlen j
abbrev r_X11_set : e_MT := ((yX11_set, 15), (2, false), (1483, 1481, 81, 1482))
abbrev K_X11_set : e_KT := (15, false, cX11_set, 8, [])
theorem rM_X11_set : e_M[187]? = some r_X11_set := by rfl
theorem rC_X11_set : e_tb 1483 = some (Cond.code yX11_set cX11_set 8 (some FieldType.int)) := by decide +kernel
theorem m_X11_set {X : e_XT} {d : Nat} {args : List Value} {S : e_SS} {Q : e_Rt → e_SS → Prop} (hlen : (e_slx args).length ≤ 8) (j : s_w X d K_X11_set 0 (e_ent0 args 8) [] S (fun r S' => e_rcr (some FieldType.int) r = true ∧ Q r S')) : s_c X d 187 args S Q := c_of rM_X11_set rC_X11_set rfl (fun _ => by contradiction) hlen j
abbrev r_X11_needPiston : e_MT := ((yX11_needPiston, 15), (2, true), (1486, 1485, 81, 9999))
abbrev K_X11_needPiston : e_KT := (15, false, cX11_needPiston, 3, [])
theorem rM_X11_needPiston : e_M[188]? = some r_X11_needPiston := by rfl
theorem rC_X11_needPiston : e_tb 1486 = some (Cond.code yX11_needPiston cX11_needPiston 3 (some FieldType.int)) := by decide +kernel
theorem m_X11_needPiston {X : e_XT} {d : Nat} {args : List Value} {S : e_SS} {Q : e_Rt → e_SS → Prop} (hlen : (e_slx args).length ≤ 3) (j : s_w X d K_X11_needPiston 0 (e_ent0 args 3) [] S (fun r S' => e_rcr (some FieldType.int) r = true ∧ Q r S')) : s_c X d 188 args S Q := c_of rM_X11_needPiston rC_X11_needPiston rfl (fun _ => by contradiction) hlen j
abbrev r_X11_push : e_MT := ((yX11_push, 15), (2, false), (1517, 1515, 81, 1516))
abbrev K_X11_push : e_KT := (15, false, cX11_push, 4, [])
theorem rM_X11_push : e_M[189]? = some r_X11_push := by rfl
theorem rC_X11_push : e_tb 1517 = some (Cond.code yX11_push cX11_push 4 (some FieldType.int)) := by decide +kernel
theorem m_X11_push {X : e_XT} {d : Nat} {args : List Value} {S : e_SS} {Q : e_Rt → e_SS → Prop} (hlen : (e_slx args).length ≤ 4) (j : s_w X d K_X11_push 0 (e_ent0 args 4) [] S (fun r S' => e_rcr (some FieldType.int) r = true ∧ Q r S')) : s_c X d 189 args S Q := c_of rM_X11_push rC_X11_push rfl (fun _ => by contradiction) hlen j
abbrev r_X11_setReversible : e_MT := ((yX11_setReversible, 15), (2, false), (1540, 1538, 81, 1539))
abbrev K_X11_setReversible : e_KT := (15, false, cX11_setReversible, 4, [])
theorem rM_X11_setReversible : e_M[190]? = some r_X11_setReversible := by rfl
theorem rC_X11_setReversible : e_tb 1540 = some (Cond.code yX11_setReversible cX11_setReversible 4 (some FieldType.int)) := by decide +kernel
theorem m_X11_setReversible {X : e_XT} {d : Nat} {args : List Value} {S : e_SS} {Q : e_Rt → e_SS → Prop} (hlen : (e_slx args).length ≤ 4) (j : s_w X d K_X11_setReversible 0 (e_ent0 args 4) [] S (fun r S' => e_rcr (some FieldType.int) r = true ∧ Q r S')) : s_c X d 190 args S Q := c_of rM_X11_setReversible rC_X11_setReversible rfl (fun _ => by contradiction) hlen j
abbrev r_X11_needReversible : e_MT := ((yX11_needReversible, 15), (1, true), (1543, 1542, 81, 9999))
abbrev K_X11_needReversible : e_KT := (15, false, cX11_needReversible, 1, [])
theorem rM_X11_needReversible : e_M[191]? = some r_X11_needReversible := by rfl
theorem rC_X11_needReversible : e_tb 1543 = some (Cond.code yX11_needReversible cX11_needReversible 1 (none)) := by decide +kernel
theorem m_X11_needReversible {X : e_XT} {d : Nat} {args : List Value} {S : e_SS} {Q : e_Rt → e_SS → Prop} (hlen : (e_slx args).length ≤ 1) (j : s_w X d K_X11_needReversible 0 (e_ent0 args 1) [] S (fun r S' => e_rcr (none) r = true ∧ Q r S')) : s_c X d 191 args S Q := c_of rM_X11_needReversible rC_X11_needReversible rfl (fun _ => by contradiction) hlen j
abbrev r_X11_pushReversible : e_MT := ((yX11_pushReversible, 15), (1, false), (1559, 1557, 81, 1558))
abbrev K_X11_pushReversible : e_KT := (15, false, cX11_pushReversible, 4, [])
theorem rM_X11_pushReversible : e_M[192]? = some r_X11_pushReversible := by rfl
theorem rC_X11_pushReversible : e_tb 1559 = some (Cond.code yX11_pushReversible cX11_pushReversible 4 (some FieldType.boolean)) := by decide +kernel
theorem m_X11_pushReversible {X : e_XT} {d : Nat} {args : List Value} {S : e_SS} {Q : e_Rt → e_SS → Prop} (hlen : (e_slx args).length ≤ 4) (j : s_w X d K_X11_pushReversible 0 (e_ent0 args 4) [] S (fun r S' => e_rcr (some FieldType.boolean) r = true ∧ Q r S')) : s_c X d 192 args S Q := c_of rM_X11_pushReversible rC_X11_pushReversible rfl (fun _ => by contradiction) hlen j
abbrev r_X11_frame : e_MT := ((yX11_frame, 15), (1, false), (1567, 1565, 81, 1566))
abbrev K_X11_frame : e_KT := (15, false, cX11_frame, 4, [])
theorem rM_X11_frame : e_M[193]? = some r_X11_frame := by rfl
theorem rC_X11_frame : e_tb 1567 = some (Cond.code yX11_frame cX11_frame 4 (some FieldType.int)) := by decide +kernel
theorem m_X11_frame {X : e_XT} {d : Nat} {args : List Value} {S : e_SS} {Q : e_Rt → e_SS → Prop} (hlen : (e_slx args).length ≤ 4) (j : s_w X d K_X11_frame 0 (e_ent0 args 4) [] S (fun r S' => e_rcr (some FieldType.int) r = true ∧ Q r S')) : s_c X d 193 args S Q := c_of rM_X11_frame rC_X11_frame rfl (fun _ => by contradiction) hlen j
abbrev r_X11_cut : e_MT := ((yX11_cut, 15), (1, false), (1590, 1588, 81, 1589))
abbrev K_X11_cut : e_KT := (15, false, cX11_cut, 2, [])
theorem rM_X11_cut : e_M[194]? = some r_X11_cut := by rfl
theorem rC_X11_cut : e_tb 1590 = some (Cond.code yX11_cut cX11_cut 2 (some FieldType.int)) := by decide +kernel
theorem m_X11_cut {X : e_XT} {d : Nat} {args : List Value} {S : e_SS} {Q : e_Rt → e_SS → Prop} (hlen : (e_slx args).length ≤ 2) (j : s_w X d K_X11_cut 0 (e_ent0 args 2) [] S (fun r S' => e_rcr (some FieldType.int) r = true ∧ Q r S')) : s_c X d 194 args S Q := c_of rM_X11_cut rC_X11_cut rfl (fun _ => by contradiction) hlen j
abbrev r_X11_needFrame : e_MT := ((yX11_needFrame, 15), (1, false), (1594, 1593, 81, 27))
abbrev K_X11_needFrame : e_KT := (15, false, cX11_needFrame, 2, [])
theorem rM_X11_needFrame : e_M[195]? = some r_X11_needFrame := by rfl
theorem rC_X11_needFrame : e_tb 1594 = some (Cond.code yX11_needFrame cX11_needFrame 2 (none)) := by decide +kernel
theorem m_X11_needFrame {X : e_XT} {d : Nat} {args : List Value} {S : e_SS} {Q : e_Rt → e_SS → Prop} (hlen : (e_slx args).length ≤ 2) (j : s_w X d K_X11_needFrame 0 (e_ent0 args 2) [] S (fun r S' => e_rcr (none) r = true ∧ Q r S')) : s_c X d 195 args S Q := c_of rM_X11_needFrame rC_X11_needFrame rfl (fun _ => by contradiction) hlen j
abbrev r_X11_turnTo : e_MT := ((yX11_turnTo, 15), (1, false), (1606, 1604, 81, 1605))
abbrev K_X11_turnTo : e_KT := (15, false, cX11_turnTo, 2, [])
theorem rM_X11_turnTo : e_M[196]? = some r_X11_turnTo := by rfl
theorem rC_X11_turnTo : e_tb 1606 = some (Cond.code yX11_turnTo cX11_turnTo 2 (some FieldType.int)) := by decide +kernel
theorem m_X11_turnTo {X : e_XT} {d : Nat} {args : List Value} {S : e_SS} {Q : e_Rt → e_SS → Prop} (hlen : (e_slx args).length ≤ 2) (j : s_w X d K_X11_turnTo 0 (e_ent0 args 2) [] S (fun r S' => e_rcr (some FieldType.int) r = true ∧ Q r S')) : s_c X d 196 args S Q := c_of rM_X11_turnTo rC_X11_turnTo rfl (fun _ => by contradiction) hlen j
abbrev r_X11_wire : e_MT := ((yX11_wire, 15), (4, false), (1621, 1619, 81, 1620))
abbrev K_X11_wire : e_KT := (15, false, cX11_wire, 6, [])
theorem rM_X11_wire : e_M[197]? = some r_X11_wire := by rfl
theorem rC_X11_wire : e_tb 1621 = some (Cond.code yX11_wire cX11_wire 6 (some FieldType.boolean)) := by decide +kernel
theorem m_X11_wire {X : e_XT} {d : Nat} {args : List Value} {S : e_SS} {Q : e_Rt → e_SS → Prop} (hlen : (e_slx args).length ≤ 6) (j : s_w X d K_X11_wire 0 (e_ent0 args 6) [] S (fun r S' => e_rcr (some FieldType.boolean) r = true ∧ Q r S')) : s_c X d 197 args S Q := c_of rM_X11_wire rC_X11_wire rfl (fun _ => by contradiction) hlen j
abbrev r_X11_needRelay : e_MT := ((yX11_needRelay, 15), (1, true), (1624, 1623, 81, 9999))
abbrev K_X11_needRelay : e_KT := (15, false, cX11_needRelay, 1, [])
theorem rM_X11_needRelay : e_M[198]? = some r_X11_needRelay := by rfl
theorem rC_X11_needRelay : e_tb 1624 = some (Cond.code yX11_needRelay cX11_needRelay 1 (none)) := by decide +kernel
theorem m_X11_needRelay {X : e_XT} {d : Nat} {args : List Value} {S : e_SS} {Q : e_Rt → e_SS → Prop} (hlen : (e_slx args).length ≤ 1) (j : s_w X d K_X11_needRelay 0 (e_ent0 args 1) [] S (fun r S' => e_rcr (none) r = true ∧ Q r S')) : s_c X d 198 args S Q := c_of rM_X11_needRelay rC_X11_needRelay rfl (fun _ => by contradiction) hlen j
abbrev r_X11_isOnRelay : e_MT := ((yX11_isOnRelay, 15), (1, false), (1643, 1641, 81, 1642))
abbrev K_X11_isOnRelay : e_KT := (15, false, cX11_isOnRelay, 2, [])
theorem rM_X11_isOnRelay : e_M[199]? = some r_X11_isOnRelay := by rfl
theorem rC_X11_isOnRelay : e_tb 1643 = some (Cond.code yX11_isOnRelay cX11_isOnRelay 2 (some FieldType.boolean)) := by decide +kernel
theorem m_X11_isOnRelay {X : e_XT} {d : Nat} {args : List Value} {S : e_SS} {Q : e_Rt → e_SS → Prop} (hlen : (e_slx args).length ≤ 2) (j : s_w X d K_X11_isOnRelay 0 (e_ent0 args 2) [] S (fun r S' => e_rcr (some FieldType.boolean) r = true ∧ Q r S')) : s_c X d 199 args S Q := c_of rM_X11_isOnRelay rC_X11_isOnRelay rfl (fun _ => by contradiction) hlen j
abbrev r_X11_drive : e_MT := ((yX11_drive, 15), (2, false), (1650, 1648, 81, 1649))
abbrev K_X11_drive : e_KT := (15, false, cX11_drive, 5, [])
theorem rM_X11_drive : e_M[200]? = some r_X11_drive := by rfl
theorem rC_X11_drive : e_tb 1650 = some (Cond.code yX11_drive cX11_drive 5 (some FieldType.int)) := by decide +kernel
theorem m_X11_drive {X : e_XT} {d : Nat} {args : List Value} {S : e_SS} {Q : e_Rt → e_SS → Prop} (hlen : (e_slx args).length ≤ 5) (j : s_w X d K_X11_drive 0 (e_ent0 args 5) [] S (fun r S' => e_rcr (some FieldType.int) r = true ∧ Q r S')) : s_c X d 200 args S Q := c_of rM_X11_drive rC_X11_drive rfl (fun _ => by contradiction) hlen j
abbrev r_X11_record : e_MT := ((yX11_record, 15), (1, false), (1657, 1655, 81, 1656))
abbrev K_X11_record : e_KT := (15, false, cX11_record, 3, [])
theorem rM_X11_record : e_M[201]? = some r_X11_record := by rfl
theorem rC_X11_record : e_tb 1657 = some (Cond.code yX11_record cX11_record 3 (some FieldType.char)) := by decide +kernel
theorem m_X11_record {X : e_XT} {d : Nat} {args : List Value} {S : e_SS} {Q : e_Rt → e_SS → Prop} (hlen : (e_slx args).length ≤ 3) (j : s_w X d K_X11_record 0 (e_ent0 args 3) [] S (fun r S' => e_rcr (some FieldType.char) r = true ∧ Q r S')) : s_c X d 201 args S Q := c_of rM_X11_record rC_X11_record rfl (fun _ => by contradiction) hlen j
abbrev r_X11_playBack : e_MT := ((yX11_playBack, 15), (0, false), (1669, 1667, 81, 1668))
abbrev K_X11_playBack : e_KT := (15, false, cX11_playBack, 4, [])
theorem rM_X11_playBack : e_M[202]? = some r_X11_playBack := by rfl
theorem rC_X11_playBack : e_tb 1669 = some (Cond.code yX11_playBack cX11_playBack 4 (some FieldType.int)) := by decide +kernel
theorem m_X11_playBack {X : e_XT} {d : Nat} {args : List Value} {S : e_SS} {Q : e_Rt → e_SS → Prop} (hlen : (e_slx args).length ≤ 4) (j : s_w X d K_X11_playBack 0 (e_ent0 args 4) [] S (fun r S' => e_rcr (some FieldType.int) r = true ∧ Q r S')) : s_c X d 202 args S Q := c_of rM_X11_playBack rC_X11_playBack rfl (fun _ => by contradiction) hlen j
abbrev r_X11_scale : e_MT := ((yX11_scale, 15), (2, false), (1705, 1703, 81, 1704))
abbrev K_X11_scale : e_KT := (15, false, cX11_scale, 4, [])
theorem rM_X11_scale : e_M[203]? = some r_X11_scale := by rfl
theorem rC_X11_scale : e_tb 1705 = some (Cond.code yX11_scale cX11_scale 4 (some FieldType.int)) := by decide +kernel
theorem m_X11_scale {X : e_XT} {d : Nat} {args : List Value} {S : e_SS} {Q : e_Rt → e_SS → Prop} (hlen : (e_slx args).length ≤ 4) (j : s_w X d K_X11_scale 0 (e_ent0 args 4) [] S (fun r S' => e_rcr (some FieldType.int) r = true ∧ Q r S')) : s_c X d 203 args S Q := c_of rM_X11_scale rC_X11_scale rfl (fun _ => by contradiction) hlen j
abbrev r_X11_realise : e_MT := ((yX11_realise, 15), (2, false), (1716, 1714, 81, 1715))
abbrev K_X11_realise : e_KT := (15, false, cX11_realise, 5, [])
theorem rM_X11_realise : e_M[204]? = some r_X11_realise := by rfl
theorem rC_X11_realise : e_tb 1716 = some (Cond.code yX11_realise cX11_realise 5 (some FieldType.int)) := by decide +kernel
theorem m_X11_realise {X : e_XT} {d : Nat} {args : List Value} {S : e_SS} {Q : e_Rt → e_SS → Prop} (hlen : (e_slx args).length ≤ 5) (j : s_w X d K_X11_realise 0 (e_ent0 args 5) [] S (fun r S' => e_rcr (some FieldType.int) r = true ∧ Q r S')) : s_c X d 204 args S Q := c_of rM_X11_realise rC_X11_realise rfl (fun _ => by contradiction) hlen j
abbrev r_X11_speakingShare : e_MT := ((yX11_speakingShare, 15), (0, false), (1807, 1805, 81, 1806))
abbrev K_X11_speakingShare : e_KT := (15, false, cX11_speakingShare, 2, [])
theorem rM_X11_speakingShare : e_M[205]? = some r_X11_speakingShare := by rfl
theorem rC_X11_speakingShare : e_tb 1807 = some (Cond.code yX11_speakingShare cX11_speakingShare 2 (some FieldType.float)) := by decide +kernel
theorem m_X11_speakingShare {X : e_XT} {d : Nat} {args : List Value} {S : e_SS} {Q : e_Rt → e_SS → Prop} (hlen : (e_slx args).length ≤ 2) (j : s_w X d K_X11_speakingShare 0 (e_ent0 args 2) [] S (fun r S' => e_rcr (some FieldType.float) r = true ∧ Q r S')) : s_c X d 205 args S Q := c_of rM_X11_speakingShare rC_X11_speakingShare rfl (fun _ => by contradiction) hlen j
abbrev r_X11_meanPitch : e_MT := ((yX11_meanPitch, 15), (0, false), (1821, 1819, 81, 1820))
abbrev K_X11_meanPitch : e_KT := (15, false, cX11_meanPitch, 2, [])
theorem rM_X11_meanPitch : e_M[206]? = some r_X11_meanPitch := by rfl
theorem rC_X11_meanPitch : e_tb 1821 = some (Cond.code yX11_meanPitch cX11_meanPitch 2 (some FieldType.double)) := by decide +kernel
theorem m_X11_meanPitch {X : e_XT} {d : Nat} {args : List Value} {S : e_SS} {Q : e_Rt → e_SS → Prop} (hlen : (e_slx args).length ≤ 2) (j : s_w X d K_X11_meanPitch 0 (e_ent0 args 2) [] S (fun r S' => e_rcr (some FieldType.double) r = true ∧ Q r S')) : s_c X d 206 args S Q := c_of rM_X11_meanPitch rC_X11_meanPitch rfl (fun _ => by contradiction) hlen j
abbrev r_X12_init : e_MT := ((yX12_init, 16), (0, false), (1908, 1907, 99, 9999))
abbrev K_X12_init : e_KT := (16, true, cX12_init, 1, [])
theorem rM_X12_init : e_M[207]? = some r_X12_init := by rfl
theorem rC_X12_init : e_tb 1908 = some (Cond.code yX12_init cX12_init 1 (none)) := by decide +kernel
theorem m_X12_init {X : e_XT} {d : Nat} {args : List Value} {S : e_SS} {Q : e_Rt → e_SS → Prop} (hlen : (e_slx args).length ≤ 1) (j : s_w X d K_X12_init 0 (e_ent0 args 1) [] S (fun r S' => e_rcr (none) r = true ∧ Q r S')) : s_c X d 207 args S Q := c_of rM_X12_init rC_X12_init rfl (fun _ => by rfl) hlen j
abbrev r_X13_init : e_MT := ((yX13_init, 17), (4, false), (2204, 2203, 110, 9999))
abbrev K_X13_init : e_KT := (17, true, cX13_init, 5, [])
theorem rM_X13_init : e_M[208]? = some r_X13_init := by rfl
theorem rC_X13_init : e_tb 2204 = some (Cond.code yX13_init cX13_init 5 (none)) := by decide +kernel
theorem m_X13_init {X : e_XT} {d : Nat} {args : List Value} {S : e_SS} {Q : e_Rt → e_SS → Prop} (hlen : (e_slx args).length ≤ 5) (j : s_w X d K_X13_init 0 (e_ent0 args 5) [] S (fun r S' => e_rcr (none) r = true ∧ Q r S')) : s_c X d 208 args S Q := c_of rM_X13_init rC_X13_init rfl (fun _ => by rfl) hlen j
abbrev r_X14_init : e_MT := ((yX14_init, 18), (5, false), (1840, 1839, 98, 9999))
abbrev K_X14_init : e_KT := (18, true, cX14_init, 7, [])
theorem rM_X14_init : e_M[209]? = some r_X14_init := by rfl
theorem rC_X14_init : e_tb 1840 = some (Cond.code yX14_init cX14_init 7 (none)) := by decide +kernel
theorem m_X14_init {X : e_XT} {d : Nat} {args : List Value} {S : e_SS} {Q : e_Rt → e_SS → Prop} (hlen : (e_slx args).length ≤ 7) (j : s_w X d K_X14_init 0 (e_ent0 args 7) [] S (fun r S' => e_rcr (none) r = true ∧ Q r S')) : s_c X d 209 args S Q := c_of rM_X14_init rC_X14_init rfl (fun _ => by rfl) hlen j
abbrev r_X15_init : e_MT := ((yX15_init, 19), (8, false), (2092, 2091, 109, 9999))
abbrev K_X15_init : e_KT := (19, true, cX15_init, 9, [])
theorem rM_X15_init : e_M[210]? = some r_X15_init := by rfl
theorem rC_X15_init : e_tb 2092 = some (Cond.code yX15_init cX15_init 9 (none)) := by decide +kernel
theorem m_X15_init {X : e_XT} {d : Nat} {args : List Value} {S : e_SS} {Q : e_Rt → e_SS → Prop} (hlen : (e_slx args).length ≤ 9) (j : s_w X d K_X15_init 0 (e_ent0 args 9) [] S (fun r S' => e_rcr (none) r = true ∧ Q r S')) : s_c X d 210 args S Q := c_of rM_X15_init rC_X15_init rfl (fun _ => by rfl) hlen j
abbrev r_X15_pipes : e_MT := ((yX15_pipes, 19), (0, false), (2133, 2131, 109, 2132))
abbrev K_X15_pipes : e_KT := (19, false, cX15_pipes, 1, [])
theorem rM_X15_pipes : e_M[211]? = some r_X15_pipes := by rfl
theorem rC_X15_pipes : e_tb 2133 = some (Cond.code yX15_pipes cX15_pipes 1 (some FieldType.int)) := by decide +kernel
theorem m_X15_pipes {X : e_XT} {d : Nat} {args : List Value} {S : e_SS} {Q : e_Rt → e_SS → Prop} (hlen : (e_slx args).length ≤ 1) (j : s_w X d K_X15_pipes 0 (e_ent0 args 1) [] S (fun r S' => e_rcr (some FieldType.int) r = true ∧ Q r S')) : s_c X d 211 args S Q := c_of rM_X15_pipes rC_X15_pipes rfl (fun _ => by contradiction) hlen j
abbrev r_X16_init : e_MT := ((yX16_init, 20), (0, false), (1832, 1831, 97, 9999))
abbrev K_X16_init : e_KT := (20, true, cX16_init, 2, [])
theorem rM_X16_init : e_M[212]? = some r_X16_init := by rfl
theorem rC_X16_init : e_tb 1832 = some (Cond.code yX16_init cX16_init 2 (none)) := by decide +kernel
theorem m_X16_init {X : e_XT} {d : Nat} {args : List Value} {S : e_SS} {Q : e_Rt → e_SS → Prop} (hlen : (e_slx args).length ≤ 2) (j : s_w X d K_X16_init 0 (e_ent0 args 2) [] S (fun r S' => e_rcr (none) r = true ∧ Q r S')) : s_c X d 212 args S Q := c_of rM_X16_init rC_X16_init rfl (fun _ => by rfl) hlen j
abbrev r_X16_thrown : e_MT := ((yX16_thrown, 20), (0, false), (2072, 2070, 97, 2071))
abbrev K_X16_thrown : e_KT := (20, false, cX16_thrown, 1, [])
theorem rM_X16_thrown : e_M[213]? = some r_X16_thrown := by rfl
theorem rC_X16_thrown : e_tb 2072 = some (Cond.code yX16_thrown cX16_thrown 1 (some FieldType.int)) := by decide +kernel
theorem m_X16_thrown {X : e_XT} {d : Nat} {args : List Value} {S : e_SS} {Q : e_Rt → e_SS → Prop} (hlen : (e_slx args).length ≤ 1) (j : s_w X d K_X16_thrown 0 (e_ent0 args 1) [] S (fun r S' => e_rcr (some FieldType.int) r = true ∧ Q r S')) : s_c X d 213 args S Q := c_of rM_X16_thrown rC_X16_thrown rfl (fun _ => by contradiction) hlen j
abbrev r_X16_rank : e_MT := ((yX16_rank, 20), (7, false), (2076, 2074, 97, 2075))
abbrev K_X16_rank : e_KT := (20, false, cX16_rank, 11, [])
theorem rM_X16_rank : e_M[214]? = some r_X16_rank := by rfl
theorem rC_X16_rank : e_tb 2076 = some (Cond.code yX16_rank cX16_rank 11 (some FieldType.int)) := by decide +kernel
theorem m_X16_rank {X : e_XT} {d : Nat} {args : List Value} {S : e_SS} {Q : e_Rt → e_SS → Prop} (hlen : (e_slx args).length ≤ 11) (j : s_w X d K_X16_rank 0 (e_ent0 args 11) [] S (fun r S' => e_rcr (some FieldType.int) r = true ∧ Q r S')) : s_c X d 214 args S Q := c_of rM_X16_rank rC_X16_rank rfl (fun _ => by contradiction) hlen j
abbrev r_X16_in : e_MT := ((yX16_in, 20), (3, true), (2079, 2078, 97, 9999))
abbrev K_X16_in : e_KT := (20, false, cX16_in, 3, [])
theorem rM_X16_in : e_M[215]? = some r_X16_in := by rfl
theorem rC_X16_in : e_tb 2079 = some (Cond.code yX16_in cX16_in 3 (some FieldType.boolean)) := by decide +kernel
theorem m_X16_in {X : e_XT} {d : Nat} {args : List Value} {S : e_SS} {Q : e_Rt → e_SS → Prop} (hlen : (e_slx args).length ≤ 3) (j : s_w X d K_X16_in 0 (e_ent0 args 3) [] S (fun r S' => e_rcr (some FieldType.boolean) r = true ∧ Q r S')) : s_c X d 215 args S Q := c_of rM_X16_in rC_X16_in rfl (fun _ => by contradiction) hlen j
abbrev r_X16_isDivision : e_MT := ((yX16_isDivision, 20), (1, true), (2082, 2081, 97, 9999))
abbrev K_X16_isDivision : e_KT := (20, false, cX16_isDivision, 1, [])
theorem rM_X16_isDivision : e_M[216]? = some r_X16_isDivision := by rfl
theorem rC_X16_isDivision : e_tb 2082 = some (Cond.code yX16_isDivision cX16_isDivision 1 (some FieldType.boolean)) := by decide +kernel
theorem m_X16_isDivision {X : e_XT} {d : Nat} {args : List Value} {S : e_SS} {Q : e_Rt → e_SS → Prop} (hlen : (e_slx args).length ≤ 1) (j : s_w X d K_X16_isDivision 0 (e_ent0 args 1) [] S (fun r S' => e_rcr (some FieldType.boolean) r = true ∧ Q r S')) : s_c X d 216 args S Q := c_of rM_X16_isDivision rC_X16_isDivision rfl (fun _ => by contradiction) hlen j
abbrev r_X16_fails : e_MT := ((yX16_fails, 20), (1, false), (2086, 2085, 97, 34))
abbrev K_X16_fails : e_KT := (20, false, cX16_fails, 2, [])
theorem rM_X16_fails : e_M[217]? = some r_X16_fails := by rfl
theorem rC_X16_fails : e_tb 2086 = some (Cond.code yX16_fails cX16_fails 2 (some FieldType.int)) := by decide +kernel
theorem m_X16_fails {X : e_XT} {d : Nat} {args : List Value} {S : e_SS} {Q : e_Rt → e_SS → Prop} (hlen : (e_slx args).length ≤ 2) (j : s_w X d K_X16_fails 0 (e_ent0 args 2) [] S (fun r S' => e_rcr (some FieldType.int) r = true ∧ Q r S')) : s_c X d 217 args S Q := c_of rM_X16_fails rC_X16_fails rfl (fun _ => by contradiction) hlen j
abbrev r_X16_settled : e_MT := ((yX16_settled, 20), (1, false), (2137, 2136, 97, 35))
abbrev K_X16_settled : e_KT := (20, false, cX16_settled, 2, [])
theorem rM_X16_settled : e_M[218]? = some r_X16_settled := by rfl
theorem rC_X16_settled : e_tb 2137 = some (Cond.code yX16_settled cX16_settled 2 (some FieldType.int)) := by decide +kernel
theorem m_X16_settled {X : e_XT} {d : Nat} {args : List Value} {S : e_SS} {Q : e_Rt → e_SS → Prop} (hlen : (e_slx args).length ≤ 2) (j : s_w X d K_X16_settled 0 (e_ent0 args 2) [] S (fun r S' => e_rcr (some FieldType.int) r = true ∧ Q r S')) : s_c X d 218 args S Q := c_of rM_X16_settled rC_X16_settled rfl (fun _ => by contradiction) hlen j
abbrev r_X16_settles : e_MT := ((yX16_settles, 20), (0, false), (2141, 2140, 97, 36))
abbrev K_X16_settles : e_KT := (20, false, cX16_settles, 4, [])
theorem rM_X16_settles : e_M[219]? = some r_X16_settles := by rfl
theorem rC_X16_settles : e_tb 2141 = some (Cond.code yX16_settles cX16_settles 4 (none)) := by decide +kernel
theorem m_X16_settles {X : e_XT} {d : Nat} {args : List Value} {S : e_SS} {Q : e_Rt → e_SS → Prop} (hlen : (e_slx args).length ≤ 4) (j : s_w X d K_X16_settles 0 (e_ent0 args 4) [] S (fun r S' => e_rcr (none) r = true ∧ Q r S')) : s_c X d 219 args S Q := c_of rM_X16_settles rC_X16_settles rfl (fun _ => by contradiction) hlen j
abbrev r_X16_reckons : e_MT := ((yX16_reckons, 20), (0, false), (2145, 2144, 97, 37))
abbrev K_X16_reckons : e_KT := (20, false, cX16_reckons, 5, [])
theorem rM_X16_reckons : e_M[220]? = some r_X16_reckons := by rfl
theorem rC_X16_reckons : e_tb 2145 = some (Cond.code yX16_reckons cX16_reckons 5 (none)) := by decide +kernel
theorem m_X16_reckons {X : e_XT} {d : Nat} {args : List Value} {S : e_SS} {Q : e_Rt → e_SS → Prop} (hlen : (e_slx args).length ≤ 5) (j : s_w X d K_X16_reckons 0 (e_ent0 args 5) [] S (fun r S' => e_rcr (none) r = true ∧ Q r S')) : s_c X d 220 args S Q := c_of rM_X16_reckons rC_X16_reckons rfl (fun _ => by contradiction) hlen j
abbrev r_X16_relays : e_MT := ((yX16_relays, 20), (0, false), (2149, 2148, 97, 38))
abbrev K_X16_relays : e_KT := (20, false, cX16_relays, 4, [])
theorem rM_X16_relays : e_M[221]? = some r_X16_relays := by rfl
theorem rC_X16_relays : e_tb 2149 = some (Cond.code yX16_relays cX16_relays 4 (none)) := by decide +kernel
theorem m_X16_relays {X : e_XT} {d : Nat} {args : List Value} {S : e_SS} {Q : e_Rt → e_SS → Prop} (hlen : (e_slx args).length ≤ 4) (j : s_w X d K_X16_relays 0 (e_ent0 args 4) [] S (fun r S' => e_rcr (none) r = true ∧ Q r S')) : s_c X d 221 args S Q := c_of rM_X16_relays rC_X16_relays rfl (fun _ => by contradiction) hlen j
abbrev r_X16_source : e_MT := ((yX16_source, 20), (1, false), (2153, 2152, 97, 39))
abbrev K_X16_source : e_KT := (20, false, cX16_source, 2, [])
theorem rM_X16_source : e_M[222]? = some r_X16_source := by rfl
theorem rC_X16_source : e_tb 2153 = some (Cond.code yX16_source cX16_source 2 (some FieldType.boolean)) := by decide +kernel
theorem m_X16_source {X : e_XT} {d : Nat} {args : List Value} {S : e_SS} {Q : e_Rt → e_SS → Prop} (hlen : (e_slx args).length ≤ 2) (j : s_w X d K_X16_source 0 (e_ent0 args 2) [] S (fun r S' => e_rcr (some FieldType.boolean) r = true ∧ Q r S')) : s_c X d 222 args S Q := c_of rM_X16_source rC_X16_source rfl (fun _ => by contradiction) hlen j
abbrev r_X16_isKnob : e_MT := ((yX16_isKnob, 20), (1, false), (2157, 2156, 97, 40))
abbrev K_X16_isKnob : e_KT := (20, false, cX16_isKnob, 2, [])
theorem rM_X16_isKnob : e_M[223]? = some r_X16_isKnob := by rfl
theorem rC_X16_isKnob : e_tb 2157 = some (Cond.code yX16_isKnob cX16_isKnob 2 (some FieldType.boolean)) := by decide +kernel
theorem m_X16_isKnob {X : e_XT} {d : Nat} {args : List Value} {S : e_SS} {Q : e_Rt → e_SS → Prop} (hlen : (e_slx args).length ≤ 2) (j : s_w X d K_X16_isKnob 0 (e_ent0 args 2) [] S (fun r S' => e_rcr (some FieldType.boolean) r = true ∧ Q r S')) : s_c X d 223 args S Q := c_of rM_X16_isKnob rC_X16_isKnob rfl (fun _ => by contradiction) hlen j
abbrev r_X16_spot : e_MT := ((yX16_spot, 20), (2, true), (2161, 2160, 97, 9999))
abbrev K_X16_spot : e_KT := (20, false, cX16_spot, 2, [])
theorem rM_X16_spot : e_M[224]? = some r_X16_spot := by rfl
theorem rC_X16_spot : e_tb 2161 = some (Cond.code yX16_spot cX16_spot 2 (some FieldType.int)) := by decide +kernel
theorem m_X16_spot {X : e_XT} {d : Nat} {args : List Value} {S : e_SS} {Q : e_Rt → e_SS → Prop} (hlen : (e_slx args).length ≤ 2) (j : s_w X d K_X16_spot 0 (e_ent0 args 2) [] S (fun r S' => e_rcr (some FieldType.int) r = true ∧ Q r S')) : s_c X d 224 args S Q := c_of rM_X16_spot rC_X16_spot rfl (fun _ => by contradiction) hlen j
abbrev r_X16_keys : e_MT := ((yX16_keys, 20), (1, true), (2164, 2163, 97, 9999))
abbrev K_X16_keys : e_KT := (20, false, cX16_keys, 1, [])
theorem rM_X16_keys : e_M[225]? = some r_X16_keys := by rfl
theorem rC_X16_keys : e_tb 2164 = some (Cond.code yX16_keys cX16_keys 1 (some FieldType.int)) := by decide +kernel
theorem m_X16_keys {X : e_XT} {d : Nat} {args : List Value} {S : e_SS} {Q : e_Rt → e_SS → Prop} (hlen : (e_slx args).length ≤ 1) (j : s_w X d K_X16_keys 0 (e_ent0 args 1) [] S (fun r S' => e_rcr (some FieldType.int) r = true ∧ Q r S')) : s_c X d 225 args S Q := c_of rM_X16_keys rC_X16_keys rfl (fun _ => by contradiction) hlen j
abbrev r_X16_counts : e_MT := ((yX16_counts, 20), (1, false), (2168, 2167, 97, 41))
abbrev K_X16_counts : e_KT := (20, false, cX16_counts, 2, [])
theorem rM_X16_counts : e_M[226]? = some r_X16_counts := by rfl
theorem rC_X16_counts : e_tb 2168 = some (Cond.code yX16_counts cX16_counts 2 (some FieldType.boolean)) := by decide +kernel
theorem m_X16_counts {X : e_XT} {d : Nat} {args : List Value} {S : e_SS} {Q : e_Rt → e_SS → Prop} (hlen : (e_slx args).length ≤ 2) (j : s_w X d K_X16_counts 0 (e_ent0 args 2) [] S (fun r S' => e_rcr (some FieldType.boolean) r = true ∧ Q r S')) : s_c X d 226 args S Q := c_of rM_X16_counts rC_X16_counts rfl (fun _ => by contradiction) hlen j
abbrev r_X16_plays : e_MT := ((yX16_plays, 20), (2, false), (2172, 2171, 97, 42))
abbrev K_X16_plays : e_KT := (20, false, cX16_plays, 8, [])
theorem rM_X16_plays : e_M[227]? = some r_X16_plays := by rfl
theorem rC_X16_plays : e_tb 2172 = some (Cond.code yX16_plays cX16_plays 8 (none)) := by decide +kernel
theorem m_X16_plays {X : e_XT} {d : Nat} {args : List Value} {S : e_SS} {Q : e_Rt → e_SS → Prop} (hlen : (e_slx args).length ≤ 8) (j : s_w X d K_X16_plays 0 (e_ent0 args 8) [] S (fun r S' => e_rcr (none) r = true ∧ Q r S')) : s_c X d 227 args S Q := c_of rM_X16_plays rC_X16_plays rfl (fun _ => by contradiction) hlen j
abbrev r_X16_sounds : e_MT := ((yX16_sounds, 20), (1, false), (2176, 2175, 97, 43))
abbrev K_X16_sounds : e_KT := (20, false, cX16_sounds, 2, [])
theorem rM_X16_sounds : e_M[228]? = some r_X16_sounds := by rfl
theorem rC_X16_sounds : e_tb 2176 = some (Cond.code yX16_sounds cX16_sounds 2 (some FieldType.boolean)) := by decide +kernel
theorem m_X16_sounds {X : e_XT} {d : Nat} {args : List Value} {S : e_SS} {Q : e_Rt → e_SS → Prop} (hlen : (e_slx args).length ≤ 2) (j : s_w X d K_X16_sounds 0 (e_ent0 args 2) [] S (fun r S' => e_rcr (some FieldType.boolean) r = true ∧ Q r S')) : s_c X d 228 args S Q := c_of rM_X16_sounds rC_X16_sounds rfl (fun _ => by contradiction) hlen j
abbrev r_X16_isPipe : e_MT := ((yX16_isPipe, 20), (2, false), (2180, 2179, 97, 44))
abbrev K_X16_isPipe : e_KT := (20, false, cX16_isPipe, 3, [])
theorem rM_X16_isPipe : e_M[229]? = some r_X16_isPipe := by rfl
theorem rC_X16_isPipe : e_tb 2180 = some (Cond.code yX16_isPipe cX16_isPipe 3 (some FieldType.boolean)) := by decide +kernel
theorem m_X16_isPipe {X : e_XT} {d : Nat} {args : List Value} {S : e_SS} {Q : e_Rt → e_SS → Prop} (hlen : (e_slx args).length ≤ 3) (j : s_w X d K_X16_isPipe 0 (e_ent0 args 3) [] S (fun r S' => e_rcr (some FieldType.boolean) r = true ∧ Q r S')) : s_c X d 229 args S Q := c_of rM_X16_isPipe rC_X16_isPipe rfl (fun _ => by contradiction) hlen j
abbrev r_X16_isRank : e_MT := ((yX16_isRank, 20), (1, false), (2184, 2183, 97, 45))
abbrev K_X16_isRank : e_KT := (20, false, cX16_isRank, 2, [])
theorem rM_X16_isRank : e_M[230]? = some r_X16_isRank := by rfl
theorem rC_X16_isRank : e_tb 2184 = some (Cond.code yX16_isRank cX16_isRank 2 (some FieldType.boolean)) := by decide +kernel
theorem m_X16_isRank {X : e_XT} {d : Nat} {args : List Value} {S : e_SS} {Q : e_Rt → e_SS → Prop} (hlen : (e_slx args).length ≤ 2) (j : s_w X d K_X16_isRank 0 (e_ent0 args 2) [] S (fun r S' => e_rcr (some FieldType.boolean) r = true ∧ Q r S')) : s_c X d 230 args S Q := c_of rM_X16_isRank rC_X16_isRank rfl (fun _ => by contradiction) hlen j
abbrev r_X16_pipe : e_MT := ((yX16_pipe, 20), (2, false), (2188, 2187, 97, 46))
abbrev K_X16_pipe : e_KT := (20, false, cX16_pipe, 3, [])
theorem rM_X16_pipe : e_M[231]? = some r_X16_pipe := by rfl
theorem rC_X16_pipe : e_tb 2188 = some (Cond.code yX16_pipe cX16_pipe 3 (some FieldType.int)) := by decide +kernel
theorem m_X16_pipe {X : e_XT} {d : Nat} {args : List Value} {S : e_SS} {Q : e_Rt → e_SS → Prop} (hlen : (e_slx args).length ≤ 3) (j : s_w X d K_X16_pipe 0 (e_ent0 args 3) [] S (fun r S' => e_rcr (some FieldType.int) r = true ∧ Q r S')) : s_c X d 231 args S Q := c_of rM_X16_pipe rC_X16_pipe rfl (fun _ => by contradiction) hlen j
abbrev r_X16_takes : e_MT := ((yX16_takes, 20), (2, false), (2192, 2191, 97, 47))
abbrev K_X16_takes : e_KT := (20, false, cX16_takes, 3, [])
theorem rM_X16_takes : e_M[232]? = some r_X16_takes := by rfl
theorem rC_X16_takes : e_tb 2192 = some (Cond.code yX16_takes cX16_takes 3 (some FieldType.boolean)) := by decide +kernel
theorem m_X16_takes {X : e_XT} {d : Nat} {args : List Value} {S : e_SS} {Q : e_Rt → e_SS → Prop} (hlen : (e_slx args).length ≤ 3) (j : s_w X d K_X16_takes 0 (e_ent0 args 3) [] S (fun r S' => e_rcr (some FieldType.boolean) r = true ∧ Q r S')) : s_c X d 232 args S Q := c_of rM_X16_takes rC_X16_takes rfl (fun _ => by contradiction) hlen j
abbrev r_X16_edge : e_MT := ((yX16_edge, 20), (2, false), (2196, 2195, 97, 48))
abbrev K_X16_edge : e_KT := (20, false, cX16_edge, 5, [])
theorem rM_X16_edge : e_M[233]? = some r_X16_edge := by rfl
theorem rC_X16_edge : e_tb 2196 = some (Cond.code yX16_edge cX16_edge 5 (some FieldType.int)) := by decide +kernel
theorem m_X16_edge {X : e_XT} {d : Nat} {args : List Value} {S : e_SS} {Q : e_Rt → e_SS → Prop} (hlen : (e_slx args).length ≤ 5) (j : s_w X d K_X16_edge 0 (e_ent0 args 5) [] S (fun r S' => e_rcr (some FieldType.int) r = true ∧ Q r S')) : s_c X d 233 args S Q := c_of rM_X16_edge rC_X16_edge rfl (fun _ => by contradiction) hlen j
abbrev r_X16_isKey : e_MT := ((yX16_isKey, 20), (2, true), (2199, 2198, 97, 9999))
abbrev K_X16_isKey : e_KT := (20, false, cX16_isKey, 2, [])
theorem rM_X16_isKey : e_M[234]? = some r_X16_isKey := by rfl
theorem rC_X16_isKey : e_tb 2199 = some (Cond.code yX16_isKey cX16_isKey 2 (some FieldType.boolean)) := by decide +kernel
theorem m_X16_isKey {X : e_XT} {d : Nat} {args : List Value} {S : e_SS} {Q : e_Rt → e_SS → Prop} (hlen : (e_slx args).length ≤ 2) (j : s_w X d K_X16_isKey 0 (e_ent0 args 2) [] S (fun r S' => e_rcr (some FieldType.boolean) r = true ∧ Q r S')) : s_c X d 234 args S Q := c_of rM_X16_isKey rC_X16_isKey rfl (fun _ => by contradiction) hlen j
abbrev r_X16_moves : e_MT := ((yX16_moves, 20), (1, false), (2226, 2225, 97, 49))
abbrev K_X16_moves : e_KT := (20, false, cX16_moves, 3, [])
theorem rM_X16_moves : e_M[235]? = some r_X16_moves := by rfl
theorem rC_X16_moves : e_tb 2226 = some (Cond.code yX16_moves cX16_moves 3 (none)) := by decide +kernel
theorem m_X16_moves {X : e_XT} {d : Nat} {args : List Value} {S : e_SS} {Q : e_Rt → e_SS → Prop} (hlen : (e_slx args).length ≤ 3) (j : s_w X d K_X16_moves 0 (e_ent0 args 3) [] S (fun r S' => e_rcr (none) r = true ∧ Q r S')) : s_c X d 235 args S Q := c_of rM_X16_moves rC_X16_moves rfl (fun _ => by contradiction) hlen j
abbrev r_X16_blows : e_MT := ((yX16_blows, 20), (0, false), (2230, 2229, 97, 50))
abbrev K_X16_blows : e_KT := (20, false, cX16_blows, 4, [])
theorem rM_X16_blows : e_M[236]? = some r_X16_blows := by rfl
theorem rC_X16_blows : e_tb 2230 = some (Cond.code yX16_blows cX16_blows 4 (none)) := by decide +kernel
theorem m_X16_blows {X : e_XT} {d : Nat} {args : List Value} {S : e_SS} {Q : e_Rt → e_SS → Prop} (hlen : (e_slx args).length ≤ 4) (j : s_w X d K_X16_blows 0 (e_ent0 args 4) [] S (fun r S' => e_rcr (none) r = true ∧ Q r S')) : s_c X d 236 args S Q := c_of rM_X16_blows rC_X16_blows rfl (fun _ => by contradiction) hlen j
abbrev r_X16_isBlown : e_MT := ((yX16_isBlown, 20), (1, false), (2234, 2233, 97, 51))
abbrev K_X16_isBlown : e_KT := (20, false, cX16_isBlown, 2, [])
theorem rM_X16_isBlown : e_M[237]? = some r_X16_isBlown := by rfl
theorem rC_X16_isBlown : e_tb 2234 = some (Cond.code yX16_isBlown cX16_isBlown 2 (some FieldType.boolean)) := by decide +kernel
theorem m_X16_isBlown {X : e_XT} {d : Nat} {args : List Value} {S : e_SS} {Q : e_Rt → e_SS → Prop} (hlen : (e_slx args).length ≤ 2) (j : s_w X d K_X16_isBlown 0 (e_ent0 args 2) [] S (fun r S' => e_rcr (some FieldType.boolean) r = true ∧ Q r S')) : s_c X d 237 args S Q := c_of rM_X16_isBlown rC_X16_isBlown rfl (fun _ => by contradiction) hlen j
abbrev r_X16_trembles : e_MT := ((yX16_trembles, 20), (1, false), (2239, 2238, 97, 52))
abbrev K_X16_trembles : e_KT := (20, false, cX16_trembles, 4, [])
theorem rM_X16_trembles : e_M[238]? = some r_X16_trembles := by rfl
theorem rC_X16_trembles : e_tb 2239 = some (Cond.code yX16_trembles cX16_trembles 4 (some FieldType.boolean)) := by decide +kernel
theorem m_X16_trembles {X : e_XT} {d : Nat} {args : List Value} {S : e_SS} {Q : e_Rt → e_SS → Prop} (hlen : (e_slx args).length ≤ 4) (j : s_w X d K_X16_trembles 0 (e_ent0 args 4) [] S (fun r S' => e_rcr (some FieldType.boolean) r = true ∧ Q r S')) : s_c X d 238 args S Q := c_of rM_X16_trembles rC_X16_trembles rfl (fun _ => by contradiction) hlen j
abbrev r_X16_answer : e_MT := ((yX16_answer, 20), (1, false), (2243, 2242, 97, 53))
abbrev K_X16_answer : e_KT := (20, false, cX16_answer, 2, [])
theorem rM_X16_answer : e_M[239]? = some r_X16_answer := by rfl
theorem rC_X16_answer : e_tb 2243 = some (Cond.code yX16_answer cX16_answer 2 (some FieldType.int)) := by decide +kernel
theorem m_X16_answer {X : e_XT} {d : Nat} {args : List Value} {S : e_SS} {Q : e_Rt → e_SS → Prop} (hlen : (e_slx args).length ≤ 2) (j : s_w X d K_X16_answer 0 (e_ent0 args 2) [] S (fun r S' => e_rcr (some FieldType.int) r = true ∧ Q r S')) : s_c X d 239 args S Q := c_of rM_X16_answer rC_X16_answer rfl (fun _ => by contradiction) hlen j
abbrev r_X16_stop : e_MT := ((yX16_stop, 20), (1, false), (2247, 2245, 97, 2246))
abbrev K_X16_stop : e_KT := (20, false, cX16_stop, 2, [])
theorem rM_X16_stop : e_M[240]? = some r_X16_stop := by rfl
theorem rC_X16_stop : e_tb 2247 = some (Cond.code yX16_stop cX16_stop 2 (some FieldType.int)) := by decide +kernel
theorem m_X16_stop {X : e_XT} {d : Nat} {args : List Value} {S : e_SS} {Q : e_Rt → e_SS → Prop} (hlen : (e_slx args).length ≤ 2) (j : s_w X d K_X16_stop 0 (e_ent0 args 2) [] S (fun r S' => e_rcr (some FieldType.int) r = true ∧ Q r S')) : s_c X d 240 args S Q := c_of rM_X16_stop rC_X16_stop rfl (fun _ => by contradiction) hlen j
abbrev r_X16_adds : e_MT := ((yX16_adds, 20), (2, false), (2251, 2250, 97, 54))
abbrev K_X16_adds : e_KT := (20, false, cX16_adds, 3, [])
theorem rM_X16_adds : e_M[241]? = some r_X16_adds := by rfl
theorem rC_X16_adds : e_tb 2251 = some (Cond.code yX16_adds cX16_adds 3 (some FieldType.int)) := by decide +kernel
theorem m_X16_adds {X : e_XT} {d : Nat} {args : List Value} {S : e_SS} {Q : e_Rt → e_SS → Prop} (hlen : (e_slx args).length ≤ 3) (j : s_w X d K_X16_adds 0 (e_ent0 args 3) [] S (fun r S' => e_rcr (some FieldType.int) r = true ∧ Q r S')) : s_c X d 241 args S Q := c_of rM_X16_adds rC_X16_adds rfl (fun _ => by contradiction) hlen j
abbrev r_X16_row : e_MT := ((yX16_row, 20), (5, false), (2255, 2253, 97, 2254))
abbrev K_X16_row : e_KT := (20, false, cX16_row, 7, [])
theorem rM_X16_row : e_M[242]? = some r_X16_row := by rfl
theorem rC_X16_row : e_tb 2255 = some (Cond.code yX16_row cX16_row 7 (some FieldType.int)) := by decide +kernel
theorem m_X16_row {X : e_XT} {d : Nat} {args : List Value} {S : e_SS} {Q : e_Rt → e_SS → Prop} (hlen : (e_slx args).length ≤ 7) (j : s_w X d K_X16_row 0 (e_ent0 args 7) [] S (fun r S' => e_rcr (some FieldType.int) r = true ∧ Q r S')) : s_c X d 242 args S Q := c_of rM_X16_row rC_X16_row rfl (fun _ => by contradiction) hlen j
abbrev r_X16_isStop : e_MT := ((yX16_isStop, 20), (1, false), (2259, 2258, 97, 55))
abbrev K_X16_isStop : e_KT := (20, false, cX16_isStop, 2, [])
theorem rM_X16_isStop : e_M[243]? = some r_X16_isStop := by rfl
theorem rC_X16_isStop : e_tb 2259 = some (Cond.code yX16_isStop cX16_isStop 2 (some FieldType.boolean)) := by decide +kernel
theorem m_X16_isStop {X : e_XT} {d : Nat} {args : List Value} {S : e_SS} {Q : e_Rt → e_SS → Prop} (hlen : (e_slx args).length ≤ 2) (j : s_w X d K_X16_isStop 0 (e_ent0 args 2) [] S (fun r S' => e_rcr (some FieldType.boolean) r = true ∧ Q r S')) : s_c X d 243 args S Q := c_of rM_X16_isStop rC_X16_isStop rfl (fun _ => by contradiction) hlen j
abbrev r_X16_cross : e_MT := ((yX16_cross, 20), (3, false), (2263, 2261, 97, 2262))
abbrev K_X16_cross : e_KT := (20, false, cX16_cross, 8, [])
theorem rM_X16_cross : e_M[244]? = some r_X16_cross := by rfl
theorem rC_X16_cross : e_tb 2263 = some (Cond.code yX16_cross cX16_cross 8 (some FieldType.int)) := by decide +kernel
theorem m_X16_cross {X : e_XT} {d : Nat} {args : List Value} {S : e_SS} {Q : e_Rt → e_SS → Prop} (hlen : (e_slx args).length ≤ 8) (j : s_w X d K_X16_cross 0 (e_ent0 args 8) [] S (fun r S' => e_rcr (some FieldType.int) r = true ∧ Q r S')) : s_c X d 244 args S Q := c_of rM_X16_cross rC_X16_cross rfl (fun _ => by contradiction) hlen j
abbrev r_X16_coupler : e_MT := ((yX16_coupler, 20), (4, false), (2267, 2265, 97, 2266))
abbrev K_X16_coupler : e_KT := (20, false, cX16_coupler, 7, [])
theorem rM_X16_coupler : e_M[245]? = some r_X16_coupler := by rfl
theorem rC_X16_coupler : e_tb 2267 = some (Cond.code yX16_coupler cX16_coupler 7 (some FieldType.int)) := by decide +kernel
theorem m_X16_coupler {X : e_XT} {d : Nat} {args : List Value} {S : e_SS} {Q : e_Rt → e_SS → Prop} (hlen : (e_slx args).length ≤ 7) (j : s_w X d K_X16_coupler 0 (e_ent0 args 7) [] S (fun r S' => e_rcr (some FieldType.int) r = true ∧ Q r S')) : s_c X d 245 args S Q := c_of rM_X16_coupler rC_X16_coupler rfl (fun _ => by contradiction) hlen j
abbrev r_X16_tremulant : e_MT := ((yX16_tremulant, 20), (1, false), (2271, 2269, 97, 2270))
abbrev K_X16_tremulant : e_KT := (20, false, cX16_tremulant, 2, [])
theorem rM_X16_tremulant : e_M[246]? = some r_X16_tremulant := by rfl
theorem rC_X16_tremulant : e_tb 2271 = some (Cond.code yX16_tremulant cX16_tremulant 2 (some FieldType.int)) := by decide +kernel
theorem m_X16_tremulant {X : e_XT} {d : Nat} {args : List Value} {S : e_SS} {Q : e_Rt → e_SS → Prop} (hlen : (e_slx args).length ≤ 2) (j : s_w X d K_X16_tremulant 0 (e_ent0 args 2) [] S (fun r S' => e_rcr (some FieldType.int) r = true ∧ Q r S')) : s_c X d 246 args S Q := c_of rM_X16_tremulant rC_X16_tremulant rfl (fun _ => by contradiction) hlen j
abbrev r_X16_draw : e_MT := ((yX16_draw, 20), (2, false), (2275, 2273, 97, 2274))
abbrev K_X16_draw : e_KT := (20, false, cX16_draw, 4, [])
theorem rM_X16_draw : e_M[247]? = some r_X16_draw := by rfl
theorem rC_X16_draw : e_tb 2275 = some (Cond.code yX16_draw cX16_draw 4 (some FieldType.boolean)) := by decide +kernel
theorem m_X16_draw {X : e_XT} {d : Nat} {args : List Value} {S : e_SS} {Q : e_Rt → e_SS → Prop} (hlen : (e_slx args).length ≤ 4) (j : s_w X d K_X16_draw 0 (e_ent0 args 4) [] S (fun r S' => e_rcr (some FieldType.boolean) r = true ∧ Q r S')) : s_c X d 247 args S Q := c_of rM_X16_draw rC_X16_draw rfl (fun _ => by contradiction) hlen j
abbrev r_X16_refuses : e_MT := ((yX16_refuses, 20), (1, false), (2279, 2278, 97, 56))
abbrev K_X16_refuses : e_KT := (20, false, cX16_refuses, 2, [])
theorem rM_X16_refuses : e_M[248]? = some r_X16_refuses := by rfl
theorem rC_X16_refuses : e_tb 2279 = some (Cond.code yX16_refuses cX16_refuses 2 (some FieldType.boolean)) := by decide +kernel
theorem m_X16_refuses {X : e_XT} {d : Nat} {args : List Value} {S : e_SS} {Q : e_Rt → e_SS → Prop} (hlen : (e_slx args).length ≤ 2) (j : s_w X d K_X16_refuses 0 (e_ent0 args 2) [] S (fun r S' => e_rcr (some FieldType.boolean) r = true ∧ Q r S')) : s_c X d 248 args S Q := c_of rM_X16_refuses rC_X16_refuses rfl (fun _ => by contradiction) hlen j
abbrev r_X16_settledSo : e_MT := ((yX16_settledSo, 20), (1, false), (2283, 2282, 97, 57))
abbrev K_X16_settledSo : e_KT := (20, false, cX16_settledSo, 2, [])
theorem rM_X16_settledSo : e_M[249]? = some r_X16_settledSo := by rfl
theorem rC_X16_settledSo : e_tb 2283 = some (Cond.code yX16_settledSo cX16_settledSo 2 (some FieldType.boolean)) := by decide +kernel
theorem m_X16_settledSo {X : e_XT} {d : Nat} {args : List Value} {S : e_SS} {Q : e_Rt → e_SS → Prop} (hlen : (e_slx args).length ≤ 2) (j : s_w X d K_X16_settledSo 0 (e_ent0 args 2) [] S (fun r S' => e_rcr (some FieldType.boolean) r = true ∧ Q r S')) : s_c X d 249 args S Q := c_of rM_X16_settledSo rC_X16_settledSo rfl (fun _ => by contradiction) hlen j
abbrev r_X16_says : e_MT := ((yX16_says, 20), (1, false), (2287, 2286, 97, 58))
abbrev K_X16_says : e_KT := (20, false, cX16_says, 2, [])
theorem rM_X16_says : e_M[250]? = some r_X16_says := by rfl
theorem rC_X16_says : e_tb 2287 = some (Cond.code yX16_says cX16_says 2 (some FieldType.boolean)) := by decide +kernel
theorem m_X16_says {X : e_XT} {d : Nat} {args : List Value} {S : e_SS} {Q : e_Rt → e_SS → Prop} (hlen : (e_slx args).length ≤ 2) (j : s_w X d K_X16_says 0 (e_ent0 args 2) [] S (fun r S' => e_rcr (some FieldType.boolean) r = true ∧ Q r S')) : s_c X d 250 args S Q := c_of rM_X16_says rC_X16_says rfl (fun _ => by contradiction) hlen j
abbrev r_X16_isDrawn : e_MT := ((yX16_isDrawn, 20), (1, false), (2291, 2289, 97, 2290))
abbrev K_X16_isDrawn : e_KT := (20, false, cX16_isDrawn, 2, [])
theorem rM_X16_isDrawn : e_M[251]? = some r_X16_isDrawn := by rfl
theorem rC_X16_isDrawn : e_tb 2291 = some (Cond.code yX16_isDrawn cX16_isDrawn 2 (some FieldType.boolean)) := by decide +kernel
theorem m_X16_isDrawn {X : e_XT} {d : Nat} {args : List Value} {S : e_SS} {Q : e_Rt → e_SS → Prop} (hlen : (e_slx args).length ≤ 2) (j : s_w X d K_X16_isDrawn 0 (e_ent0 args 2) [] S (fun r S' => e_rcr (some FieldType.boolean) r = true ∧ Q r S')) : s_c X d 251 args S Q := c_of rM_X16_isDrawn rC_X16_isDrawn rfl (fun _ => by contradiction) hlen j
abbrev r_X16_isOn : e_MT := ((yX16_isOn, 20), (1, false), (2295, 2293, 97, 2294))
abbrev K_X16_isOn : e_KT := (20, false, cX16_isOn, 2, [])
theorem rM_X16_isOn : e_M[252]? = some r_X16_isOn := by rfl
theorem rC_X16_isOn : e_tb 2295 = some (Cond.code yX16_isOn cX16_isOn 2 (some FieldType.boolean)) := by decide +kernel
theorem m_X16_isOn {X : e_XT} {d : Nat} {args : List Value} {S : e_SS} {Q : e_Rt → e_SS → Prop} (hlen : (e_slx args).length ≤ 2) (j : s_w X d K_X16_isOn 0 (e_ent0 args 2) [] S (fun r S' => e_rcr (some FieldType.boolean) r = true ∧ Q r S')) : s_c X d 252 args S Q := c_of rM_X16_isOn rC_X16_isOn rfl (fun _ => by contradiction) hlen j
abbrev r_X16_lock : e_MT := ((yX16_lock, 20), (2, false), (2299, 2297, 97, 2298))
abbrev K_X16_lock : e_KT := (20, false, cX16_lock, 4, [])
theorem rM_X16_lock : e_M[253]? = some r_X16_lock := by rfl
theorem rC_X16_lock : e_tb 2299 = some (Cond.code yX16_lock cX16_lock 4 (some FieldType.boolean)) := by decide +kernel
theorem m_X16_lock {X : e_XT} {d : Nat} {args : List Value} {S : e_SS} {Q : e_Rt → e_SS → Prop} (hlen : (e_slx args).length ≤ 4) (j : s_w X d K_X16_lock 0 (e_ent0 args 4) [] S (fun r S' => e_rcr (some FieldType.boolean) r = true ∧ Q r S')) : s_c X d 253 args S Q := c_of rM_X16_lock rC_X16_lock rfl (fun _ => by contradiction) hlen j
abbrev r_X16_stage : e_MT := ((yX16_stage, 20), (2, false), (2303, 2301, 97, 2302))
abbrev K_X16_stage : e_KT := (20, false, cX16_stage, 4, [])
theorem rM_X16_stage : e_M[254]? = some r_X16_stage := by rfl
theorem rC_X16_stage : e_tb 2303 = some (Cond.code yX16_stage cX16_stage 4 (some FieldType.int)) := by decide +kernel
theorem m_X16_stage {X : e_XT} {d : Nat} {args : List Value} {S : e_SS} {Q : e_Rt → e_SS → Prop} (hlen : (e_slx args).length ≤ 4) (j : s_w X d K_X16_stage 0 (e_ent0 args 4) [] S (fun r S' => e_rcr (some FieldType.int) r = true ∧ Q r S')) : s_c X d 254 args S Q := c_of rM_X16_stage rC_X16_stage rfl (fun _ => by contradiction) hlen j
abbrev r_X16_crescendo : e_MT := ((yX16_crescendo, 20), (1, false), (2307, 2305, 97, 2306))
abbrev K_X16_crescendo : e_KT := (20, false, cX16_crescendo, 3, [])
theorem rM_X16_crescendo : e_M[255]? = some r_X16_crescendo := by rfl
theorem rC_X16_crescendo : e_tb 2307 = some (Cond.code yX16_crescendo cX16_crescendo 3 (some FieldType.int)) := by decide +kernel
theorem m_X16_crescendo {X : e_XT} {d : Nat} {args : List Value} {S : e_SS} {Q : e_Rt → e_SS → Prop} (hlen : (e_slx args).length ≤ 3) (j : s_w X d K_X16_crescendo 0 (e_ent0 args 3) [] S (fun r S' => e_rcr (some FieldType.int) r = true ∧ Q r S')) : s_c X d 255 args S Q := c_of rM_X16_crescendo rC_X16_crescendo rfl (fun _ => by contradiction) hlen j
abbrev r_X16_tutti : e_MT := ((yX16_tutti, 20), (1, false), (2311, 2309, 97, 2310))
abbrev K_X16_tutti : e_KT := (20, false, cX16_tutti, 3, [])
theorem rM_X16_tutti : e_M[256]? = some r_X16_tutti := by rfl
theorem rC_X16_tutti : e_tb 2311 = some (Cond.code yX16_tutti cX16_tutti 3 (some FieldType.boolean)) := by decide +kernel
theorem m_X16_tutti {X : e_XT} {d : Nat} {args : List Value} {S : e_SS} {Q : e_Rt → e_SS → Prop} (hlen : (e_slx args).length ≤ 3) (j : s_w X d K_X16_tutti 0 (e_ent0 args 3) [] S (fun r S' => e_rcr (some FieldType.boolean) r = true ∧ Q r S')) : s_c X d 256 args S Q := c_of rM_X16_tutti rC_X16_tutti rfl (fun _ => by contradiction) hlen j
abbrev r_X16_key : e_MT := ((yX16_key, 20), (3, false), (2315, 2313, 97, 2314))
abbrev K_X16_key : e_KT := (20, false, cX16_key, 5, [])
theorem rM_X16_key : e_M[257]? = some r_X16_key := by rfl
theorem rC_X16_key : e_tb 2315 = some (Cond.code yX16_key cX16_key 5 (some FieldType.boolean)) := by decide +kernel
theorem m_X16_key {X : e_XT} {d : Nat} {args : List Value} {S : e_SS} {Q : e_Rt → e_SS → Prop} (hlen : (e_slx args).length ≤ 5) (j : s_w X d K_X16_key 0 (e_ent0 args 5) [] S (fun r S' => e_rcr (some FieldType.boolean) r = true ∧ Q r S')) : s_c X d 257 args S Q := c_of rM_X16_key rC_X16_key rfl (fun _ => by contradiction) hlen j
abbrev r_X16_moved : e_MT := ((yX16_moved, 20), (3, false), (2319, 2318, 97, 59))
abbrev K_X16_moved : e_KT := (20, false, cX16_moved, 5, [])
theorem rM_X16_moved : e_M[258]? = some r_X16_moved := by rfl
theorem rC_X16_moved : e_tb 2319 = some (Cond.code yX16_moved cX16_moved 5 (some FieldType.boolean)) := by decide +kernel
theorem m_X16_moved {X : e_XT} {d : Nat} {args : List Value} {S : e_SS} {Q : e_Rt → e_SS → Prop} (hlen : (e_slx args).length ≤ 5) (j : s_w X d K_X16_moved 0 (e_ent0 args 5) [] S (fun r S' => e_rcr (some FieldType.boolean) r = true ∧ Q r S')) : s_c X d 258 args S Q := c_of rM_X16_moved rC_X16_moved rfl (fun _ => by contradiction) hlen j
abbrev r_X16_isDown : e_MT := ((yX16_isDown, 20), (2, false), (2323, 2321, 97, 2322))
abbrev K_X16_isDown : e_KT := (20, false, cX16_isDown, 3, [])
theorem rM_X16_isDown : e_M[259]? = some r_X16_isDown := by rfl
theorem rC_X16_isDown : e_tb 2323 = some (Cond.code yX16_isDown cX16_isDown 3 (some FieldType.boolean)) := by decide +kernel
theorem m_X16_isDown {X : e_XT} {d : Nat} {args : List Value} {S : e_SS} {Q : e_Rt → e_SS → Prop} (hlen : (e_slx args).length ≤ 3) (j : s_w X d K_X16_isDown 0 (e_ent0 args 3) [] S (fun r S' => e_rcr (some FieldType.boolean) r = true ∧ Q r S')) : s_c X d 259 args S Q := c_of rM_X16_isDown rC_X16_isDown rfl (fun _ => by contradiction) hlen j
abbrev r_X16_lift : e_MT := ((yX16_lift, 20), (0, false), (2327, 2325, 97, 2326))
abbrev K_X16_lift : e_KT := (20, false, cX16_lift, 4, [])
theorem rM_X16_lift : e_M[260]? = some r_X16_lift := by rfl
theorem rC_X16_lift : e_tb 2327 = some (Cond.code yX16_lift cX16_lift 4 (some FieldType.int)) := by decide +kernel
theorem m_X16_lift {X : e_XT} {d : Nat} {args : List Value} {S : e_SS} {Q : e_Rt → e_SS → Prop} (hlen : (e_slx args).length ≤ 4) (j : s_w X d K_X16_lift 0 (e_ent0 args 4) [] S (fun r S' => e_rcr (some FieldType.int) r = true ∧ Q r S')) : s_c X d 260 args S Q := c_of rM_X16_lift rC_X16_lift rfl (fun _ => by contradiction) hlen j
abbrev r_X16_pass : e_MT := ((yX16_pass, 20), (1, false), (2331, 2329, 97, 2330))
abbrev K_X16_pass : e_KT := (20, false, cX16_pass, 2, [])
theorem rM_X16_pass : e_M[261]? = some r_X16_pass := by rfl
theorem rC_X16_pass : e_tb 2331 = some (Cond.code yX16_pass cX16_pass 2 (some FieldType.int)) := by decide +kernel
theorem m_X16_pass {X : e_XT} {d : Nat} {args : List Value} {S : e_SS} {Q : e_Rt → e_SS → Prop} (hlen : (e_slx args).length ≤ 2) (j : s_w X d K_X16_pass 0 (e_ent0 args 2) [] S (fun r S' => e_rcr (some FieldType.int) r = true ∧ Q r S')) : s_c X d 261 args S Q := c_of rM_X16_pass rC_X16_pass rfl (fun _ => by contradiction) hlen j
abbrev r_X16_goesOn : e_MT := ((yX16_goesOn, 20), (1, false), (2335, 2334, 97, 60))
abbrev K_X16_goesOn : e_KT := (20, false, cX16_goesOn, 3, [])
theorem rM_X16_goesOn : e_M[262]? = some r_X16_goesOn := by rfl
theorem rC_X16_goesOn : e_tb 2335 = some (Cond.code yX16_goesOn cX16_goesOn 3 (none)) := by decide +kernel
theorem m_X16_goesOn {X : e_XT} {d : Nat} {args : List Value} {S : e_SS} {Q : e_Rt → e_SS → Prop} (hlen : (e_slx args).length ≤ 3) (j : s_w X d K_X16_goesOn 0 (e_ent0 args 3) [] S (fun r S' => e_rcr (none) r = true ∧ Q r S')) : s_c X d 262 args S Q := c_of rM_X16_goesOn rC_X16_goesOn rfl (fun _ => by contradiction) hlen j
abbrev r_X16_reasons : e_MT := ((yX16_reasons, 20), (2, false), (2339, 2337, 97, 2338))
abbrev K_X16_reasons : e_KT := (20, false, cX16_reasons, 3, [])
theorem rM_X16_reasons : e_M[263]? = some r_X16_reasons := by rfl
theorem rC_X16_reasons : e_tb 2339 = some (Cond.code yX16_reasons cX16_reasons 3 (some FieldType.int)) := by decide +kernel
theorem m_X16_reasons {X : e_XT} {d : Nat} {args : List Value} {S : e_SS} {Q : e_Rt → e_SS → Prop} (hlen : (e_slx args).length ≤ 3) (j : s_w X d K_X16_reasons 0 (e_ent0 args 3) [] S (fun r S' => e_rcr (some FieldType.int) r = true ∧ Q r S')) : s_c X d 263 args S Q := c_of rM_X16_reasons rC_X16_reasons rfl (fun _ => by contradiction) hlen j
abbrev r_X16_reasonsOf : e_MT := ((yX16_reasonsOf, 20), (1, false), (2343, 2342, 97, 61))
abbrev K_X16_reasonsOf : e_KT := (20, false, cX16_reasonsOf, 2, [])
theorem rM_X16_reasonsOf : e_M[264]? = some r_X16_reasonsOf := by rfl
theorem rC_X16_reasonsOf : e_tb 2343 = some (Cond.code yX16_reasonsOf cX16_reasonsOf 2 (some FieldType.int)) := by decide +kernel
theorem m_X16_reasonsOf {X : e_XT} {d : Nat} {args : List Value} {S : e_SS} {Q : e_Rt → e_SS → Prop} (hlen : (e_slx args).length ≤ 2) (j : s_w X d K_X16_reasonsOf 0 (e_ent0 args 2) [] S (fun r S' => e_rcr (some FieldType.int) r = true ∧ Q r S')) : s_c X d 264 args S Q := c_of rM_X16_reasonsOf rC_X16_reasonsOf rfl (fun _ => by contradiction) hlen j
abbrev r_X16_reasonsAnew : e_MT := ((yX16_reasonsAnew, 20), (2, false), (2347, 2345, 97, 2346))
abbrev K_X16_reasonsAnew : e_KT := (20, false, cX16_reasonsAnew, 3, [])
theorem rM_X16_reasonsAnew : e_M[265]? = some r_X16_reasonsAnew := by rfl
theorem rC_X16_reasonsAnew : e_tb 2347 = some (Cond.code yX16_reasonsAnew cX16_reasonsAnew 3 (some FieldType.int)) := by decide +kernel
theorem m_X16_reasonsAnew {X : e_XT} {d : Nat} {args : List Value} {S : e_SS} {Q : e_Rt → e_SS → Prop} (hlen : (e_slx args).length ≤ 3) (j : s_w X d K_X16_reasonsAnew 0 (e_ent0 args 3) [] S (fun r S' => e_rcr (some FieldType.int) r = true ∧ Q r S')) : s_c X d 265 args S Q := c_of rM_X16_reasonsAnew rC_X16_reasonsAnew rfl (fun _ => by contradiction) hlen j
abbrev r_X16_isOpen : e_MT := ((yX16_isOpen, 20), (2, false), (2351, 2349, 97, 2350))
abbrev K_X16_isOpen : e_KT := (20, false, cX16_isOpen, 3, [])
theorem rM_X16_isOpen : e_M[266]? = some r_X16_isOpen := by rfl
theorem rC_X16_isOpen : e_tb 2351 = some (Cond.code yX16_isOpen cX16_isOpen 3 (some FieldType.boolean)) := by decide +kernel
theorem m_X16_isOpen {X : e_XT} {d : Nat} {args : List Value} {S : e_SS} {Q : e_Rt → e_SS → Prop} (hlen : (e_slx args).length ≤ 3) (j : s_w X d K_X16_isOpen 0 (e_ent0 args 3) [] S (fun r S' => e_rcr (some FieldType.boolean) r = true ∧ Q r S')) : s_c X d 266 args S Q := c_of rM_X16_isOpen rC_X16_isOpen rfl (fun _ => by contradiction) hlen j
abbrev r_X16_speaks : e_MT := ((yX16_speaks, 20), (2, false), (2355, 2353, 97, 2354))
abbrev K_X16_speaks : e_KT := (20, false, cX16_speaks, 3, [])
theorem rM_X16_speaks : e_M[267]? = some r_X16_speaks := by rfl
theorem rC_X16_speaks : e_tb 2355 = some (Cond.code yX16_speaks cX16_speaks 3 (some FieldType.boolean)) := by decide +kernel
theorem m_X16_speaks {X : e_XT} {d : Nat} {args : List Value} {S : e_SS} {Q : e_Rt → e_SS → Prop} (hlen : (e_slx args).length ≤ 3) (j : s_w X d K_X16_speaks 0 (e_ent0 args 3) [] S (fun r S' => e_rcr (some FieldType.boolean) r = true ∧ Q r S')) : s_c X d 267 args S Q := c_of rM_X16_speaks rC_X16_speaks rfl (fun _ => by contradiction) hlen j
abbrev r_X16_speaking : e_MT := ((yX16_speaking, 20), (0, false), (2359, 2357, 97, 2358))
abbrev K_X16_speaking : e_KT := (20, false, cX16_speaking, 1, [])
theorem rM_X16_speaking : e_M[268]? = some r_X16_speaking := by rfl
theorem rC_X16_speaking : e_tb 2359 = some (Cond.code yX16_speaking cX16_speaking 1 (some FieldType.int)) := by decide +kernel
theorem m_X16_speaking {X : e_XT} {d : Nat} {args : List Value} {S : e_SS} {Q : e_Rt → e_SS → Prop} (hlen : (e_slx args).length ≤ 1) (j : s_w X d K_X16_speaking 0 (e_ent0 args 1) [] S (fun r S' => e_rcr (some FieldType.int) r = true ∧ Q r S')) : s_c X d 268 args S Q := c_of rM_X16_speaking rC_X16_speaking rfl (fun _ => by contradiction) hlen j
abbrev r_X16_allSpeaking : e_MT := ((yX16_allSpeaking, 20), (0, false), (2363, 2362, 97, 62))
abbrev K_X16_allSpeaking : e_KT := (20, false, cX16_allSpeaking, 3, [])
theorem rM_X16_allSpeaking : e_M[269]? = some r_X16_allSpeaking := by rfl
theorem rC_X16_allSpeaking : e_tb 2363 = some (Cond.code yX16_allSpeaking cX16_allSpeaking 3 (some FieldType.int)) := by decide +kernel
theorem m_X16_allSpeaking {X : e_XT} {d : Nat} {args : List Value} {S : e_SS} {Q : e_Rt → e_SS → Prop} (hlen : (e_slx args).length ≤ 3) (j : s_w X d K_X16_allSpeaking 0 (e_ent0 args 3) [] S (fun r S' => e_rcr (some FieldType.int) r = true ∧ Q r S')) : s_c X d 269 args S Q := c_of rM_X16_allSpeaking rC_X16_allSpeaking rfl (fun _ => by contradiction) hlen j
abbrev r_X16_begun : e_MT := ((yX16_begun, 20), (2, false), (2367, 2365, 97, 2366))
abbrev K_X16_begun : e_KT := (20, false, cX16_begun, 3, [])
theorem rM_X16_begun : e_M[270]? = some r_X16_begun := by rfl
theorem rC_X16_begun : e_tb 2367 = some (Cond.code yX16_begun cX16_begun 3 (some FieldType.int)) := by decide +kernel
theorem m_X16_begun {X : e_XT} {d : Nat} {args : List Value} {S : e_SS} {Q : e_Rt → e_SS → Prop} (hlen : (e_slx args).length ≤ 3) (j : s_w X d K_X16_begun 0 (e_ent0 args 3) [] S (fun r S' => e_rcr (some FieldType.int) r = true ∧ Q r S')) : s_c X d 270 args S Q := c_of rM_X16_begun rC_X16_begun rfl (fun _ => by contradiction) hlen j
abbrev r_X16_ended : e_MT := ((yX16_ended, 20), (0, false), (2371, 2369, 97, 2370))
abbrev K_X16_ended : e_KT := (20, false, cX16_ended, 1, [])
theorem rM_X16_ended : e_M[271]? = some r_X16_ended := by rfl
theorem rC_X16_ended : e_tb 2371 = some (Cond.code yX16_ended cX16_ended 1 (some FieldType.long)) := by decide +kernel
theorem m_X16_ended {X : e_XT} {d : Nat} {args : List Value} {S : e_SS} {Q : e_Rt → e_SS → Prop} (hlen : (e_slx args).length ≤ 1) (j : s_w X d K_X16_ended 0 (e_ent0 args 1) [] S (fun r S' => e_rcr (some FieldType.long) r = true ∧ Q r S')) : s_c X d 271 args S Q := c_of rM_X16_ended rC_X16_ended rfl (fun _ => by contradiction) hlen j
abbrev r_X16_supply : e_MT := ((yX16_supply, 20), (2, false), (2375, 2373, 97, 2374))
abbrev K_X16_supply : e_KT := (20, false, cX16_supply, 4, [])
theorem rM_X16_supply : e_M[272]? = some r_X16_supply := by rfl
theorem rC_X16_supply : e_tb 2375 = some (Cond.code yX16_supply cX16_supply 4 (some FieldType.int)) := by decide +kernel
theorem m_X16_supply {X : e_XT} {d : Nat} {args : List Value} {S : e_SS} {Q : e_Rt → e_SS → Prop} (hlen : (e_slx args).length ≤ 4) (j : s_w X d K_X16_supply 0 (e_ent0 args 4) [] S (fun r S' => e_rcr (some FieldType.int) r = true ∧ Q r S')) : s_c X d 272 args S Q := c_of rM_X16_supply rC_X16_supply rfl (fun _ => by contradiction) hlen j
abbrev r_X16_wind : e_MT := ((yX16_wind, 20), (1, false), (2379, 2377, 97, 2378))
abbrev K_X16_wind : e_KT := (20, false, cX16_wind, 2, [])
theorem rM_X16_wind : e_M[273]? = some r_X16_wind := by rfl
theorem rC_X16_wind : e_tb 2379 = some (Cond.code yX16_wind cX16_wind 2 (some FieldType.int)) := by decide +kernel
theorem m_X16_wind {X : e_XT} {d : Nat} {args : List Value} {S : e_SS} {Q : e_Rt → e_SS → Prop} (hlen : (e_slx args).length ≤ 2) (j : s_w X d K_X16_wind 0 (e_ent0 args 2) [] S (fun r S' => e_rcr (some FieldType.int) r = true ∧ Q r S')) : s_c X d 273 args S Q := c_of rM_X16_wind rC_X16_wind rfl (fun _ => by contradiction) hlen j
abbrev r_X16_box : e_MT := ((yX16_box, 20), (2, false), (2383, 2381, 97, 2382))
abbrev K_X16_box : e_KT := (20, false, cX16_box, 4, [])
theorem rM_X16_box : e_M[274]? = some r_X16_box := by rfl
theorem rC_X16_box : e_tb 2383 = some (Cond.code yX16_box cX16_box 4 (some FieldType.int)) := by decide +kernel
theorem m_X16_box {X : e_XT} {d : Nat} {args : List Value} {S : e_SS} {Q : e_Rt → e_SS → Prop} (hlen : (e_slx args).length ≤ 4) (j : s_w X d K_X16_box 0 (e_ent0 args 4) [] S (fun r S' => e_rcr (some FieldType.int) r = true ∧ Q r S')) : s_c X d 274 args S Q := c_of rM_X16_box rC_X16_box rfl (fun _ => by contradiction) hlen j
abbrev r_X16_loudness : e_MT := ((yX16_loudness, 20), (0, false), (2387, 2385, 97, 2386))
abbrev K_X16_loudness : e_KT := (20, false, cX16_loudness, 3, [])
theorem rM_X16_loudness : e_M[275]? = some r_X16_loudness := by rfl
theorem rC_X16_loudness : e_tb 2387 = some (Cond.code yX16_loudness cX16_loudness 3 (some FieldType.int)) := by decide +kernel
theorem m_X16_loudness {X : e_XT} {d : Nat} {args : List Value} {S : e_SS} {Q : e_Rt → e_SS → Prop} (hlen : (e_slx args).length ≤ 3) (j : s_w X d K_X16_loudness 0 (e_ent0 args 3) [] S (fun r S' => e_rcr (some FieldType.int) r = true ∧ Q r S')) : s_c X d 275 args S Q := c_of rM_X16_loudness rC_X16_loudness rfl (fun _ => by contradiction) hlen j
abbrev r_X16_temper : e_MT := ((yX16_temper, 20), (2, false), (2391, 2389, 97, 2390))
abbrev K_X16_temper : e_KT := (20, false, cX16_temper, 4, [])
theorem rM_X16_temper : e_M[276]? = some r_X16_temper := by rfl
theorem rC_X16_temper : e_tb 2391 = some (Cond.code yX16_temper cX16_temper 4 (some FieldType.int)) := by decide +kernel
theorem m_X16_temper {X : e_XT} {d : Nat} {args : List Value} {S : e_SS} {Q : e_Rt → e_SS → Prop} (hlen : (e_slx args).length ≤ 4) (j : s_w X d K_X16_temper 0 (e_ent0 args 4) [] S (fun r S' => e_rcr (some FieldType.int) r = true ∧ Q r S')) : s_c X d 276 args S Q := c_of rM_X16_temper rC_X16_temper rfl (fun _ => by contradiction) hlen j
abbrev r_X16_tune : e_MT := ((yX16_tune, 20), (3, false), (2395, 2393, 97, 2394))
abbrev K_X16_tune : e_KT := (20, false, cX16_tune, 5, [])
theorem rM_X16_tune : e_M[277]? = some r_X16_tune := by rfl
theorem rC_X16_tune : e_tb 2395 = some (Cond.code yX16_tune cX16_tune 5 (some FieldType.int)) := by decide +kernel
theorem m_X16_tune {X : e_XT} {d : Nat} {args : List Value} {S : e_SS} {Q : e_Rt → e_SS → Prop} (hlen : (e_slx args).length ≤ 5) (j : s_w X d K_X16_tune 0 (e_ent0 args 5) [] S (fun r S' => e_rcr (some FieldType.int) r = true ∧ Q r S')) : s_c X d 277 args S Q := c_of rM_X16_tune rC_X16_tune rfl (fun _ => by contradiction) hlen j
abbrev r_X16_tuneTo : e_MT := ((yX16_tuneTo, 20), (4, false), (2399, 2397, 97, 2398))
abbrev K_X16_tuneTo : e_KT := (20, false, cX16_tuneTo, 7, [])
theorem rM_X16_tuneTo : e_M[278]? = some r_X16_tuneTo := by rfl
theorem rC_X16_tuneTo : e_tb 2399 = some (Cond.code yX16_tuneTo cX16_tuneTo 7 (some FieldType.int)) := by decide +kernel
theorem m_X16_tuneTo {X : e_XT} {d : Nat} {args : List Value} {S : e_SS} {Q : e_Rt → e_SS → Prop} (hlen : (e_slx args).length ≤ 7) (j : s_w X d K_X16_tuneTo 0 (e_ent0 args 7) [] S (fun r S' => e_rcr (some FieldType.int) r = true ∧ Q r S')) : s_c X d 278 args S Q := c_of rM_X16_tuneTo rC_X16_tuneTo rfl (fun _ => by contradiction) hlen j
abbrev r_X16_pitchOf : e_MT := ((yX16_pitchOf, 20), (1, false), (2403, 2402, 97, 63))
abbrev K_X16_pitchOf : e_KT := (20, false, cX16_pitchOf, 4, [])
theorem rM_X16_pitchOf : e_M[279]? = some r_X16_pitchOf := by rfl
theorem rC_X16_pitchOf : e_tb 2403 = some (Cond.code yX16_pitchOf cX16_pitchOf 4 (some FieldType.int)) := by decide +kernel
theorem m_X16_pitchOf {X : e_XT} {d : Nat} {args : List Value} {S : e_SS} {Q : e_Rt → e_SS → Prop} (hlen : (e_slx args).length ≤ 4) (j : s_w X d K_X16_pitchOf 0 (e_ent0 args 4) [] S (fun r S' => e_rcr (some FieldType.int) r = true ∧ Q r S')) : s_c X d 279 args S Q := c_of rM_X16_pitchOf rC_X16_pitchOf rfl (fun _ => by contradiction) hlen j
abbrev r_X16_heat : e_MT := ((yX16_heat, 20), (3, false), (2407, 2405, 97, 2406))
abbrev K_X16_heat : e_KT := (20, false, cX16_heat, 5, [])
theorem rM_X16_heat : e_M[280]? = some r_X16_heat := by rfl
theorem rC_X16_heat : e_tb 2407 = some (Cond.code yX16_heat cX16_heat 5 (some FieldType.int)) := by decide +kernel
theorem m_X16_heat {X : e_XT} {d : Nat} {args : List Value} {S : e_SS} {Q : e_Rt → e_SS → Prop} (hlen : (e_slx args).length ≤ 5) (j : s_w X d K_X16_heat 0 (e_ent0 args 5) [] S (fun r S' => e_rcr (some FieldType.int) r = true ∧ Q r S')) : s_c X d 280 args S Q := c_of rM_X16_heat rC_X16_heat rfl (fun _ => by contradiction) hlen j
abbrev r_X16_pitch : e_MT := ((yX16_pitch, 20), (2, false), (2411, 2409, 97, 2410))
abbrev K_X16_pitch : e_KT := (20, false, cX16_pitch, 3, [])
theorem rM_X16_pitch : e_M[281]? = some r_X16_pitch := by rfl
theorem rC_X16_pitch : e_tb 2411 = some (Cond.code yX16_pitch cX16_pitch 3 (some FieldType.int)) := by decide +kernel
theorem m_X16_pitch {X : e_XT} {d : Nat} {args : List Value} {S : e_SS} {Q : e_Rt → e_SS → Prop} (hlen : (e_slx args).length ≤ 3) (j : s_w X d K_X16_pitch 0 (e_ent0 args 3) [] S (fun r S' => e_rcr (some FieldType.int) r = true ∧ Q r S')) : s_c X d 281 args S Q := c_of rM_X16_pitch rC_X16_pitch rfl (fun _ => by contradiction) hlen j
abbrev r_X16_fault : e_MT := ((yX16_fault, 20), (3, false), (2415, 2413, 97, 2414))
abbrev K_X16_fault : e_KT := (20, false, cX16_fault, 5, [])
theorem rM_X16_fault : e_M[282]? = some r_X16_fault := by rfl
theorem rC_X16_fault : e_tb 2415 = some (Cond.code yX16_fault cX16_fault 5 (some FieldType.char)) := by decide +kernel
theorem m_X16_fault {X : e_XT} {d : Nat} {args : List Value} {S : e_SS} {Q : e_Rt → e_SS → Prop} (hlen : (e_slx args).length ≤ 5) (j : s_w X d K_X16_fault 0 (e_ent0 args 5) [] S (fun r S' => e_rcr (some FieldType.char) r = true ∧ Q r S')) : s_c X d 282 args S Q := c_of rM_X16_fault rC_X16_fault rfl (fun _ => by contradiction) hlen j
abbrev r_X16_hunt : e_MT := ((yX16_hunt, 20), (1, false), (2419, 2417, 97, 2418))
abbrev K_X16_hunt : e_KT := (20, false, cX16_hunt, 4, [])
theorem rM_X16_hunt : e_M[283]? = some r_X16_hunt := by rfl
theorem rC_X16_hunt : e_tb 2419 = some (Cond.code yX16_hunt cX16_hunt 4 (some FieldType.int)) := by decide +kernel
theorem m_X16_hunt {X : e_XT} {d : Nat} {args : List Value} {S : e_SS} {Q : e_Rt → e_SS → Prop} (hlen : (e_slx args).length ≤ 4) (j : s_w X d K_X16_hunt 0 (e_ent0 args 4) [] S (fun r S' => e_rcr (some FieldType.int) r = true ∧ Q r S')) : s_c X d 283 args S Q := c_of rM_X16_hunt rC_X16_hunt rfl (fun _ => by contradiction) hlen j
abbrev r_X16_hasFault : e_MT := ((yX16_hasFault, 20), (2, false), (2423, 2422, 97, 64))
abbrev K_X16_hasFault : e_KT := (20, false, cX16_hasFault, 5, [])
theorem rM_X16_hasFault : e_M[284]? = some r_X16_hasFault := by rfl
theorem rC_X16_hasFault : e_tb 2423 = some (Cond.code yX16_hasFault cX16_hasFault 5 (some FieldType.boolean)) := by decide +kernel
theorem m_X16_hasFault {X : e_XT} {d : Nat} {args : List Value} {S : e_SS} {Q : e_Rt → e_SS → Prop} (hlen : (e_slx args).length ≤ 5) (j : s_w X d K_X16_hasFault 0 (e_ent0 args 5) [] S (fun r S' => e_rcr (some FieldType.boolean) r = true ∧ Q r S')) : s_c X d 284 args S Q := c_of rM_X16_hasFault rC_X16_hasFault rfl (fun _ => by contradiction) hlen j
abbrev r_X16_trials : e_MT := ((yX16_trials, 20), (2, false), (2427, 2426, 97, 65))
abbrev K_X16_trials : e_KT := (20, false, cX16_trials, 7, [])
theorem rM_X16_trials : e_M[285]? = some r_X16_trials := by rfl
theorem rC_X16_trials : e_tb 2427 = some (Cond.code yX16_trials cX16_trials 7 (some FieldType.int)) := by decide +kernel
theorem m_X16_trials {X : e_XT} {d : Nat} {args : List Value} {S : e_SS} {Q : e_Rt → e_SS → Prop} (hlen : (e_slx args).length ≤ 7) (j : s_w X d K_X16_trials 0 (e_ent0 args 7) [] S (fun r S' => e_rcr (some FieldType.int) r = true ∧ Q r S')) : s_c X d 285 args S Q := c_of rM_X16_trials rC_X16_trials rfl (fun _ => by contradiction) hlen j
abbrev r_X16_guest : e_MT := ((yX16_guest, 20), (1, false), (2431, 2429, 97, 2430))
abbrev K_X16_guest : e_KT := (20, false, cX16_guest, 3, [])
theorem rM_X16_guest : e_M[286]? = some r_X16_guest := by rfl
theorem rC_X16_guest : e_tb 2431 = some (Cond.code yX16_guest cX16_guest 3 (some FieldType.int)) := by decide +kernel
theorem m_X16_guest {X : e_XT} {d : Nat} {args : List Value} {S : e_SS} {Q : e_Rt → e_SS → Prop} (hlen : (e_slx args).length ≤ 3) (j : s_w X d K_X16_guest 0 (e_ent0 args 3) [] S (fun r S' => e_rcr (some FieldType.int) r = true ∧ Q r S')) : s_c X d 286 args S Q := c_of rM_X16_guest rC_X16_guest rfl (fun _ => by contradiction) hlen j
abbrev r_X16_claim : e_MT := ((yX16_claim, 20), (1, false), (2435, 2433, 97, 2434))
abbrev K_X16_claim : e_KT := (20, false, cX16_claim, 3, [])
theorem rM_X16_claim : e_M[287]? = some r_X16_claim := by rfl
theorem rC_X16_claim : e_tb 2435 = some (Cond.code yX16_claim cX16_claim 3 (some FieldType.boolean)) := by decide +kernel
theorem m_X16_claim {X : e_XT} {d : Nat} {args : List Value} {S : e_SS} {Q : e_Rt → e_SS → Prop} (hlen : (e_slx args).length ≤ 3) (j : s_w X d K_X16_claim 0 (e_ent0 args 3) [] S (fun r S' => e_rcr (some FieldType.boolean) r = true ∧ Q r S')) : s_c X d 287 args S Q := c_of rM_X16_claim rC_X16_claim rfl (fun _ => by contradiction) hlen j
abbrev r_X16_isOthers : e_MT := ((yX16_isOthers, 20), (0, false), (2439, 2438, 97, 66))
abbrev K_X16_isOthers : e_KT := (20, false, cX16_isOthers, 1, [])
theorem rM_X16_isOthers : e_M[288]? = some r_X16_isOthers := by rfl
theorem rC_X16_isOthers : e_tb 2439 = some (Cond.code yX16_isOthers cX16_isOthers 1 (some FieldType.boolean)) := by decide +kernel
theorem m_X16_isOthers {X : e_XT} {d : Nat} {args : List Value} {S : e_SS} {Q : e_Rt → e_SS → Prop} (hlen : (e_slx args).length ≤ 1) (j : s_w X d K_X16_isOthers 0 (e_ent0 args 1) [] S (fun r S' => e_rcr (some FieldType.boolean) r = true ∧ Q r S')) : s_c X d 288 args S Q := c_of rM_X16_isOthers rC_X16_isOthers rfl (fun _ => by contradiction) hlen j
abbrev r_X16_level : e_MT := ((yX16_level, 20), (1, false), (2443, 2441, 97, 2442))
abbrev K_X16_level : e_KT := (20, false, cX16_level, 3, [])
theorem rM_X16_level : e_M[289]? = some r_X16_level := by rfl
theorem rC_X16_level : e_tb 2443 = some (Cond.code yX16_level cX16_level 3 (some FieldType.int)) := by decide +kernel
theorem m_X16_level {X : e_XT} {d : Nat} {args : List Value} {S : e_SS} {Q : e_Rt → e_SS → Prop} (hlen : (e_slx args).length ≤ 3) (j : s_w X d K_X16_level 0 (e_ent0 args 3) [] S (fun r S' => e_rcr (some FieldType.int) r = true ∧ Q r S')) : s_c X d 289 args S Q := c_of rM_X16_level rC_X16_level rfl (fun _ => by contradiction) hlen j
abbrev r_X16_scope : e_MT := ((yX16_scope, 20), (2, false), (2447, 2445, 97, 2446))
abbrev K_X16_scope : e_KT := (20, false, cX16_scope, 4, [])
theorem rM_X16_scope : e_M[290]? = some r_X16_scope := by rfl
theorem rC_X16_scope : e_tb 2447 = some (Cond.code yX16_scope cX16_scope 4 (some FieldType.boolean)) := by decide +kernel
theorem m_X16_scope {X : e_XT} {d : Nat} {args : List Value} {S : e_SS} {Q : e_Rt → e_SS → Prop} (hlen : (e_slx args).length ≤ 4) (j : s_w X d K_X16_scope 0 (e_ent0 args 4) [] S (fun r S' => e_rcr (some FieldType.boolean) r = true ∧ Q r S')) : s_c X d 290 args S Q := c_of rM_X16_scope rC_X16_scope rfl (fun _ => by contradiction) hlen j
abbrev r_X16_set : e_MT := ((yX16_set, 20), (2, false), (2451, 2449, 97, 2450))
abbrev K_X16_set : e_KT := (20, false, cX16_set, 6, [])
theorem rM_X16_set : e_M[291]? = some r_X16_set := by rfl
theorem rC_X16_set : e_tb 2451 = some (Cond.code yX16_set cX16_set 6 (some FieldType.int)) := by decide +kernel
theorem m_X16_set {X : e_XT} {d : Nat} {args : List Value} {S : e_SS} {Q : e_Rt → e_SS → Prop} (hlen : (e_slx args).length ≤ 6) (j : s_w X d K_X16_set 0 (e_ent0 args 6) [] S (fun r S' => e_rcr (some FieldType.int) r = true ∧ Q r S')) : s_c X d 291 args S Q := c_of rM_X16_set rC_X16_set rfl (fun _ => by contradiction) hlen j
abbrev r_X16_isPiston : e_MT := ((yX16_isPiston, 20), (2, true), (2454, 2453, 97, 9999))
abbrev K_X16_isPiston : e_KT := (20, false, cX16_isPiston, 2, [])
theorem rM_X16_isPiston : e_M[292]? = some r_X16_isPiston := by rfl
theorem rC_X16_isPiston : e_tb 2454 = some (Cond.code yX16_isPiston cX16_isPiston 2 (some FieldType.boolean)) := by decide +kernel
theorem m_X16_isPiston {X : e_XT} {d : Nat} {args : List Value} {S : e_SS} {Q : e_Rt → e_SS → Prop} (hlen : (e_slx args).length ≤ 2) (j : s_w X d K_X16_isPiston 0 (e_ent0 args 2) [] S (fun r S' => e_rcr (some FieldType.boolean) r = true ∧ Q r S')) : s_c X d 292 args S Q := c_of rM_X16_isPiston rC_X16_isPiston rfl (fun _ => by contradiction) hlen j
abbrev r_X16_keeping : e_MT := ((yX16_keeping, 20), (2, false), (2458, 2457, 97, 67))
abbrev K_X16_keeping : e_KT := (20, false, cX16_keeping, 3, [])
theorem rM_X16_keeping : e_M[293]? = some r_X16_keeping := by rfl
theorem rC_X16_keeping : e_tb 2458 = some (Cond.code yX16_keeping cX16_keeping 3 (some (FieldType.object "RankhallModel$Keeping"))) := by decide +kernel
theorem m_X16_keeping {X : e_XT} {d : Nat} {args : List Value} {S : e_SS} {Q : e_Rt → e_SS → Prop} (hlen : (e_slx args).length ≤ 3) (j : s_w X d K_X16_keeping 0 (e_ent0 args 3) [] S (fun r S' => e_rcr (some (FieldType.object "RankhallModel$Keeping")) r = true ∧ Q r S')) : s_c X d 293 args S Q := c_of rM_X16_keeping rC_X16_keeping rfl (fun _ => by contradiction) hlen j
abbrev r_X16_keeps : e_MT := ((yX16_keeps, 20), (2, false), (2462, 2461, 97, 68))
abbrev K_X16_keeps : e_KT := (20, false, cX16_keeps, 3, [])
theorem rM_X16_keeps : e_M[294]? = some r_X16_keeps := by rfl
theorem rC_X16_keeps : e_tb 2462 = some (Cond.code yX16_keeps cX16_keeps 3 (none)) := by decide +kernel
theorem m_X16_keeps {X : e_XT} {d : Nat} {args : List Value} {S : e_SS} {Q : e_Rt → e_SS → Prop} (hlen : (e_slx args).length ≤ 3) (j : s_w X d K_X16_keeps 0 (e_ent0 args 3) [] S (fun r S' => e_rcr (none) r = true ∧ Q r S')) : s_c X d 294 args S Q := c_of rM_X16_keeps rC_X16_keeps rfl (fun _ => by contradiction) hlen j
abbrev r_X16_push : e_MT := ((yX16_push, 20), (2, false), (2467, 2465, 97, 2466))
abbrev K_X16_push : e_KT := (20, false, cX16_push, 3, [])
theorem rM_X16_push : e_M[295]? = some r_X16_push := by rfl
theorem rC_X16_push : e_tb 2467 = some (Cond.code yX16_push cX16_push 3 (some FieldType.int)) := by decide +kernel
theorem m_X16_push {X : e_XT} {d : Nat} {args : List Value} {S : e_SS} {Q : e_Rt → e_SS → Prop} (hlen : (e_slx args).length ≤ 3) (j : s_w X d K_X16_push 0 (e_ent0 args 3) [] S (fun r S' => e_rcr (some FieldType.int) r = true ∧ Q r S')) : s_c X d 295 args S Q := c_of rM_X16_push rC_X16_push rfl (fun _ => by contradiction) hlen j
abbrev r_X16_moves_ : e_MT := ((yX16_moves_, 20), (1, false), (2471, 2470, 97, 69))
abbrev K_X16_moves_ : e_KT := (20, false, cX16_moves_, 6, [])
theorem rM_X16_moves_ : e_M[296]? = some r_X16_moves_ := by rfl
theorem rC_X16_moves_ : e_tb 2471 = some (Cond.code yX16_moves_ cX16_moves_ 6 (some FieldType.int)) := by decide +kernel
theorem m_X16_moves_ {X : e_XT} {d : Nat} {args : List Value} {S : e_SS} {Q : e_Rt → e_SS → Prop} (hlen : (e_slx args).length ≤ 6) (j : s_w X d K_X16_moves_ 0 (e_ent0 args 6) [] S (fun r S' => e_rcr (some FieldType.int) r = true ∧ Q r S')) : s_c X d 296 args S Q := c_of rM_X16_moves_ rC_X16_moves_ rfl (fun _ => by contradiction) hlen j
abbrev r_X16_setReversible : e_MT := ((yX16_setReversible, 20), (2, false), (2475, 2473, 97, 2474))
abbrev K_X16_setReversible : e_KT := (20, false, cX16_setReversible, 4, [])
theorem rM_X16_setReversible : e_M[297]? = some r_X16_setReversible := by rfl
theorem rC_X16_setReversible : e_tb 2475 = some (Cond.code yX16_setReversible cX16_setReversible 4 (some FieldType.int)) := by decide +kernel
theorem m_X16_setReversible {X : e_XT} {d : Nat} {args : List Value} {S : e_SS} {Q : e_Rt → e_SS → Prop} (hlen : (e_slx args).length ≤ 4) (j : s_w X d K_X16_setReversible 0 (e_ent0 args 4) [] S (fun r S' => e_rcr (some FieldType.int) r = true ∧ Q r S')) : s_c X d 297 args S Q := c_of rM_X16_setReversible rC_X16_setReversible rfl (fun _ => by contradiction) hlen j
abbrev r_X16_pushReversible : e_MT := ((yX16_pushReversible, 20), (1, false), (2479, 2477, 97, 2478))
abbrev K_X16_pushReversible : e_KT := (20, false, cX16_pushReversible, 4, [])
theorem rM_X16_pushReversible : e_M[298]? = some r_X16_pushReversible := by rfl
theorem rC_X16_pushReversible : e_tb 2479 = some (Cond.code yX16_pushReversible cX16_pushReversible 4 (some FieldType.boolean)) := by decide +kernel
theorem m_X16_pushReversible {X : e_XT} {d : Nat} {args : List Value} {S : e_SS} {Q : e_Rt → e_SS → Prop} (hlen : (e_slx args).length ≤ 4) (j : s_w X d K_X16_pushReversible 0 (e_ent0 args 4) [] S (fun r S' => e_rcr (some FieldType.boolean) r = true ∧ Q r S')) : s_c X d 298 args S Q := c_of rM_X16_pushReversible rC_X16_pushReversible rfl (fun _ => by contradiction) hlen j
abbrev r_X16_step : e_MT := ((yX16_step, 20), (0, false), (2483, 2481, 97, 2482))
abbrev K_X16_step : e_KT := (20, false, cX16_step, 1, [])
theorem rM_X16_step : e_M[299]? = some r_X16_step := by rfl
theorem rC_X16_step : e_tb 2483 = some (Cond.code yX16_step cX16_step 1 (some FieldType.int)) := by decide +kernel
theorem m_X16_step {X : e_XT} {d : Nat} {args : List Value} {S : e_SS} {Q : e_Rt → e_SS → Prop} (hlen : (e_slx args).length ≤ 1) (j : s_w X d K_X16_step 0 (e_ent0 args 1) [] S (fun r S' => e_rcr (some FieldType.int) r = true ∧ Q r S')) : s_c X d 299 args S Q := c_of rM_X16_step rC_X16_step rfl (fun _ => by contradiction) hlen j
abbrev r_X16_frame : e_MT := ((yX16_frame, 20), (1, false), (2487, 2485, 97, 2486))
abbrev K_X16_frame : e_KT := (20, false, cX16_frame, 5, [])
theorem rM_X16_frame : e_M[300]? = some r_X16_frame := by rfl
theorem rC_X16_frame : e_tb 2487 = some (Cond.code yX16_frame cX16_frame 5 (some FieldType.int)) := by decide +kernel
theorem m_X16_frame {X : e_XT} {d : Nat} {args : List Value} {S : e_SS} {Q : e_Rt → e_SS → Prop} (hlen : (e_slx args).length ≤ 5) (j : s_w X d K_X16_frame 0 (e_ent0 args 5) [] S (fun r S' => e_rcr (some FieldType.int) r = true ∧ Q r S')) : s_c X d 300 args S Q := c_of rM_X16_frame rC_X16_frame rfl (fun _ => by contradiction) hlen j
abbrev r_X16_cut : e_MT := ((yX16_cut, 20), (1, false), (2730, 2728, 97, 2729))
abbrev K_X16_cut : e_KT := (20, false, cX16_cut, 3, [])
theorem rM_X16_cut : e_M[301]? = some r_X16_cut := by rfl
theorem rC_X16_cut : e_tb 2730 = some (Cond.code yX16_cut cX16_cut 3 (some FieldType.int)) := by decide +kernel
theorem m_X16_cut {X : e_XT} {d : Nat} {args : List Value} {S : e_SS} {Q : e_Rt → e_SS → Prop} (hlen : (e_slx args).length ≤ 3) (j : s_w X d K_X16_cut 0 (e_ent0 args 3) [] S (fun r S' => e_rcr (some FieldType.int) r = true ∧ Q r S')) : s_c X d 301 args S Q := c_of rM_X16_cut rC_X16_cut rfl (fun _ => by contradiction) hlen j
abbrev r_X16_turnTo : e_MT := ((yX16_turnTo, 20), (1, false), (2742, 2740, 97, 2741))
abbrev K_X16_turnTo : e_KT := (20, false, cX16_turnTo, 3, [])
theorem rM_X16_turnTo : e_M[302]? = some r_X16_turnTo := by rfl
theorem rC_X16_turnTo : e_tb 2742 = some (Cond.code yX16_turnTo cX16_turnTo 3 (some FieldType.int)) := by decide +kernel
theorem m_X16_turnTo {X : e_XT} {d : Nat} {args : List Value} {S : e_SS} {Q : e_Rt → e_SS → Prop} (hlen : (e_slx args).length ≤ 3) (j : s_w X d K_X16_turnTo 0 (e_ent0 args 3) [] S (fun r S' => e_rcr (some FieldType.int) r = true ∧ Q r S')) : s_c X d 302 args S Q := c_of rM_X16_turnTo rC_X16_turnTo rfl (fun _ => by contradiction) hlen j
abbrev r_X16_wire : e_MT := ((yX16_wire, 20), (4, false), (2746, 2744, 97, 2745))
abbrev K_X16_wire : e_KT := (20, false, cX16_wire, 6, [])
theorem rM_X16_wire : e_M[303]? = some r_X16_wire := by rfl
theorem rC_X16_wire : e_tb 2746 = some (Cond.code yX16_wire cX16_wire 6 (some FieldType.boolean)) := by decide +kernel
theorem m_X16_wire {X : e_XT} {d : Nat} {args : List Value} {S : e_SS} {Q : e_Rt → e_SS → Prop} (hlen : (e_slx args).length ≤ 6) (j : s_w X d K_X16_wire 0 (e_ent0 args 6) [] S (fun r S' => e_rcr (some FieldType.boolean) r = true ∧ Q r S')) : s_c X d 303 args S Q := c_of rM_X16_wire rC_X16_wire rfl (fun _ => by contradiction) hlen j
abbrev r_X16_isSource : e_MT := ((yX16_isSource, 20), (2, true), (2749, 2748, 97, 9999))
abbrev K_X16_isSource : e_KT := (20, false, cX16_isSource, 2, [])
theorem rM_X16_isSource : e_M[304]? = some r_X16_isSource := by rfl
theorem rC_X16_isSource : e_tb 2749 = some (Cond.code yX16_isSource cX16_isSource 2 (some FieldType.boolean)) := by decide +kernel
theorem m_X16_isSource {X : e_XT} {d : Nat} {args : List Value} {S : e_SS} {Q : e_Rt → e_SS → Prop} (hlen : (e_slx args).length ≤ 2) (j : s_w X d K_X16_isSource 0 (e_ent0 args 2) [] S (fun r S' => e_rcr (some FieldType.boolean) r = true ∧ Q r S')) : s_c X d 304 args S Q := c_of rM_X16_isSource rC_X16_isSource rfl (fun _ => by contradiction) hlen j
abbrev r_X16_isOnRelay : e_MT := ((yX16_isOnRelay, 20), (1, false), (2753, 2751, 97, 2752))
abbrev K_X16_isOnRelay : e_KT := (20, false, cX16_isOnRelay, 2, [])
theorem rM_X16_isOnRelay : e_M[305]? = some r_X16_isOnRelay := by rfl
theorem rC_X16_isOnRelay : e_tb 2753 = some (Cond.code yX16_isOnRelay cX16_isOnRelay 2 (some FieldType.boolean)) := by decide +kernel
theorem m_X16_isOnRelay {X : e_XT} {d : Nat} {args : List Value} {S : e_SS} {Q : e_Rt → e_SS → Prop} (hlen : (e_slx args).length ≤ 2) (j : s_w X d K_X16_isOnRelay 0 (e_ent0 args 2) [] S (fun r S' => e_rcr (some FieldType.boolean) r = true ∧ Q r S')) : s_c X d 305 args S Q := c_of rM_X16_isOnRelay rC_X16_isOnRelay rfl (fun _ => by contradiction) hlen j
abbrev r_X16_drive : e_MT := ((yX16_drive, 20), (2, false), (2757, 2755, 97, 2756))
abbrev K_X16_drive : e_KT := (20, false, cX16_drive, 4, [])
theorem rM_X16_drive : e_M[306]? = some r_X16_drive := by rfl
theorem rC_X16_drive : e_tb 2757 = some (Cond.code yX16_drive cX16_drive 4 (some FieldType.int)) := by decide +kernel
theorem m_X16_drive {X : e_XT} {d : Nat} {args : List Value} {S : e_SS} {Q : e_Rt → e_SS → Prop} (hlen : (e_slx args).length ≤ 4) (j : s_w X d K_X16_drive 0 (e_ent0 args 4) [] S (fun r S' => e_rcr (some FieldType.int) r = true ∧ Q r S')) : s_c X d 306 args S Q := c_of rM_X16_drive rC_X16_drive rfl (fun _ => by contradiction) hlen j
abbrev r_X16_record : e_MT := ((yX16_record, 20), (1, false), (2761, 2759, 97, 2760))
abbrev K_X16_record : e_KT := (20, false, cX16_record, 3, [])
theorem rM_X16_record : e_M[307]? = some r_X16_record := by rfl
theorem rC_X16_record : e_tb 2761 = some (Cond.code yX16_record cX16_record 3 (some FieldType.char)) := by decide +kernel
theorem m_X16_record {X : e_XT} {d : Nat} {args : List Value} {S : e_SS} {Q : e_Rt → e_SS → Prop} (hlen : (e_slx args).length ≤ 3) (j : s_w X d K_X16_record 0 (e_ent0 args 3) [] S (fun r S' => e_rcr (some FieldType.char) r = true ∧ Q r S')) : s_c X d 307 args S Q := c_of rM_X16_record rC_X16_record rfl (fun _ => by contradiction) hlen j
abbrev r_X16_recorded : e_MT := ((yX16_recorded, 20), (0, false), (2769, 2767, 97, 2768))
abbrev K_X16_recorded : e_KT := (20, false, cX16_recorded, 1, [])
theorem rM_X16_recorded : e_M[308]? = some r_X16_recorded := by rfl
theorem rC_X16_recorded : e_tb 2769 = some (Cond.code yX16_recorded cX16_recorded 1 (some FieldType.int)) := by decide +kernel
theorem m_X16_recorded {X : e_XT} {d : Nat} {args : List Value} {S : e_SS} {Q : e_Rt → e_SS → Prop} (hlen : (e_slx args).length ≤ 1) (j : s_w X d K_X16_recorded 0 (e_ent0 args 1) [] S (fun r S' => e_rcr (some FieldType.int) r = true ∧ Q r S')) : s_c X d 308 args S Q := c_of rM_X16_recorded rC_X16_recorded rfl (fun _ => by contradiction) hlen j
abbrev r_X16_playBack : e_MT := ((yX16_playBack, 20), (0, false), (2773, 2771, 97, 2772))
abbrev K_X16_playBack : e_KT := (20, false, cX16_playBack, 6, [])
theorem rM_X16_playBack : e_M[309]? = some r_X16_playBack := by rfl
theorem rC_X16_playBack : e_tb 2773 = some (Cond.code yX16_playBack cX16_playBack 6 (some FieldType.int)) := by decide +kernel
theorem m_X16_playBack {X : e_XT} {d : Nat} {args : List Value} {S : e_SS} {Q : e_Rt → e_SS → Prop} (hlen : (e_slx args).length ≤ 6) (j : s_w X d K_X16_playBack 0 (e_ent0 args 6) [] S (fun r S' => e_rcr (some FieldType.int) r = true ∧ Q r S')) : s_c X d 309 args S Q := c_of rM_X16_playBack rC_X16_playBack rfl (fun _ => by contradiction) hlen j
abbrev r_X16_scale : e_MT := ((yX16_scale, 20), (2, false), (2782, 2780, 97, 2781))
abbrev K_X16_scale : e_KT := (20, false, cX16_scale, 4, [])
theorem rM_X16_scale : e_M[310]? = some r_X16_scale := by rfl
theorem rC_X16_scale : e_tb 2782 = some (Cond.code yX16_scale cX16_scale 4 (some FieldType.int)) := by decide +kernel
theorem m_X16_scale {X : e_XT} {d : Nat} {args : List Value} {S : e_SS} {Q : e_Rt → e_SS → Prop} (hlen : (e_slx args).length ≤ 4) (j : s_w X d K_X16_scale 0 (e_ent0 args 4) [] S (fun r S' => e_rcr (some FieldType.int) r = true ∧ Q r S')) : s_c X d 310 args S Q := c_of rM_X16_scale rC_X16_scale rfl (fun _ => by contradiction) hlen j
abbrev r_X16_realise : e_MT := ((yX16_realise, 20), (2, false), (2786, 2784, 97, 2785))
abbrev K_X16_realise : e_KT := (20, false, cX16_realise, 6, [])
theorem rM_X16_realise : e_M[311]? = some r_X16_realise := by rfl
theorem rC_X16_realise : e_tb 2786 = some (Cond.code yX16_realise cX16_realise 6 (some FieldType.int)) := by decide +kernel
theorem m_X16_realise {X : e_XT} {d : Nat} {args : List Value} {S : e_SS} {Q : e_Rt → e_SS → Prop} (hlen : (e_slx args).length ≤ 6) (j : s_w X d K_X16_realise 0 (e_ent0 args 6) [] S (fun r S' => e_rcr (some FieldType.int) r = true ∧ Q r S')) : s_c X d 311 args S Q := c_of rM_X16_realise rC_X16_realise rfl (fun _ => by contradiction) hlen j
abbrev r_X16_classOf : e_MT := ((yX16_classOf, 20), (1, false), (2790, 2789, 97, 73))
abbrev K_X16_classOf : e_KT := (20, false, cX16_classOf, 5, [])
theorem rM_X16_classOf : e_M[312]? = some r_X16_classOf := by rfl
theorem rC_X16_classOf : e_tb 2790 = some (Cond.code yX16_classOf cX16_classOf 5 (some FieldType.int)) := by decide +kernel
theorem m_X16_classOf {X : e_XT} {d : Nat} {args : List Value} {S : e_SS} {Q : e_Rt → e_SS → Prop} (hlen : (e_slx args).length ≤ 5) (j : s_w X d K_X16_classOf 0 (e_ent0 args 5) [] S (fun r S' => e_rcr (some FieldType.int) r = true ∧ Q r S')) : s_c X d 312 args S Q := c_of rM_X16_classOf rC_X16_classOf rfl (fun _ => by contradiction) hlen j
abbrev r_X16_finds : e_MT := ((yX16_finds, 20), (3, false), (2794, 2793, 97, 74))
abbrev K_X16_finds : e_KT := (20, false, cX16_finds, 10, [])
theorem rM_X16_finds : e_M[313]? = some r_X16_finds := by rfl
theorem rC_X16_finds : e_tb 2794 = some (Cond.code yX16_finds cX16_finds 10 (some FieldType.int)) := by decide +kernel
theorem m_X16_finds {X : e_XT} {d : Nat} {args : List Value} {S : e_SS} {Q : e_Rt → e_SS → Prop} (hlen : (e_slx args).length ≤ 10) (j : s_w X d K_X16_finds 0 (e_ent0 args 10) [] S (fun r S' => e_rcr (some FieldType.int) r = true ∧ Q r S')) : s_c X d 313 args S Q := c_of rM_X16_finds rC_X16_finds rfl (fun _ => by contradiction) hlen j
abbrev r_X16_areClasses : e_MT := ((yX16_areClasses, 20), (5, false), (2798, 2797, 97, 75))
abbrev K_X16_areClasses : e_KT := (20, false, cX16_areClasses, 9, [])
theorem rM_X16_areClasses : e_M[314]? = some r_X16_areClasses := by rfl
theorem rC_X16_areClasses : e_tb 2798 = some (Cond.code yX16_areClasses cX16_areClasses 9 (some FieldType.boolean)) := by decide +kernel
theorem m_X16_areClasses {X : e_XT} {d : Nat} {args : List Value} {S : e_SS} {Q : e_Rt → e_SS → Prop} (hlen : (e_slx args).length ≤ 9) (j : s_w X d K_X16_areClasses 0 (e_ent0 args 9) [] S (fun r S' => e_rcr (some FieldType.boolean) r = true ∧ Q r S')) : s_c X d 314 args S Q := c_of rM_X16_areClasses rC_X16_areClasses rfl (fun _ => by contradiction) hlen j
abbrev r_X16_steps : e_MT := ((yX16_steps, 20), (2, false), (2802, 2801, 97, 76))
abbrev K_X16_steps : e_KT := (20, false, cX16_steps, 3, [])
theorem rM_X16_steps : e_M[315]? = some r_X16_steps := by rfl
theorem rC_X16_steps : e_tb 2802 = some (Cond.code yX16_steps cX16_steps 3 (some FieldType.int)) := by decide +kernel
theorem m_X16_steps {X : e_XT} {d : Nat} {args : List Value} {S : e_SS} {Q : e_Rt → e_SS → Prop} (hlen : (e_slx args).length ≤ 3) (j : s_w X d K_X16_steps 0 (e_ent0 args 3) [] S (fun r S' => e_rcr (some FieldType.int) r = true ∧ Q r S')) : s_c X d 315 args S Q := c_of rM_X16_steps rC_X16_steps rfl (fun _ => by contradiction) hlen j
abbrev r_X16_badSteps : e_MT := ((yX16_badSteps, 20), (4, false), (2806, 2805, 97, 77))
abbrev K_X16_badSteps : e_KT := (20, false, cX16_badSteps, 11, [])
theorem rM_X16_badSteps : e_M[316]? = some r_X16_badSteps := by rfl
theorem rC_X16_badSteps : e_tb 2806 = some (Cond.code yX16_badSteps cX16_badSteps 11 (some FieldType.int)) := by decide +kernel
theorem m_X16_badSteps {X : e_XT} {d : Nat} {args : List Value} {S : e_SS} {Q : e_Rt → e_SS → Prop} (hlen : (e_slx args).length ≤ 11) (j : s_w X d K_X16_badSteps 0 (e_ent0 args 11) [] S (fun r S' => e_rcr (some FieldType.int) r = true ∧ Q r S')) : s_c X d 316 args S Q := c_of rM_X16_badSteps rC_X16_badSteps rfl (fun _ => by contradiction) hlen j
abbrev r_X16_voice : e_MT := ((yX16_voice, 20), (5, false), (2811, 2810, 97, 78))
abbrev K_X16_voice : e_KT := (20, false, cX16_voice, 6, [])
theorem rM_X16_voice : e_M[317]? = some r_X16_voice := by rfl
theorem rC_X16_voice : e_tb 2811 = some (Cond.code yX16_voice cX16_voice 6 (some FieldType.int)) := by decide +kernel
theorem m_X16_voice {X : e_XT} {d : Nat} {args : List Value} {S : e_SS} {Q : e_Rt → e_SS → Prop} (hlen : (e_slx args).length ≤ 6) (j : s_w X d K_X16_voice 0 (e_ent0 args 6) [] S (fun r S' => e_rcr (some FieldType.int) r = true ∧ Q r S')) : s_c X d 317 args S Q := c_of rM_X16_voice rC_X16_voice rfl (fun _ => by contradiction) hlen j
abbrev r_X16_isPerfect : e_MT := ((yX16_isPerfect, 20), (1, true), (2814, 2813, 97, 9999))
abbrev K_X16_isPerfect : e_KT := (20, false, cX16_isPerfect, 1, [])
theorem rM_X16_isPerfect : e_M[318]? = some r_X16_isPerfect := by rfl
theorem rC_X16_isPerfect : e_tb 2814 = some (Cond.code yX16_isPerfect cX16_isPerfect 1 (some FieldType.boolean)) := by decide +kernel
theorem m_X16_isPerfect {X : e_XT} {d : Nat} {args : List Value} {S : e_SS} {Q : e_Rt → e_SS → Prop} (hlen : (e_slx args).length ≤ 1) (j : s_w X d K_X16_isPerfect 0 (e_ent0 args 1) [] S (fun r S' => e_rcr (some FieldType.boolean) r = true ∧ Q r S')) : s_c X d 318 args S Q := c_of rM_X16_isPerfect rC_X16_isPerfect rfl (fun _ => by contradiction) hlen j
abbrev r_X16_far : e_MT := ((yX16_far, 20), (3, false), (2818, 2817, 97, 79))
abbrev K_X16_far : e_KT := (20, false, cX16_far, 4, [])
theorem rM_X16_far : e_M[319]? = some r_X16_far := by rfl
theorem rC_X16_far : e_tb 2818 = some (Cond.code yX16_far cX16_far 4 (some FieldType.int)) := by decide +kernel
theorem m_X16_far {X : e_XT} {d : Nat} {args : List Value} {S : e_SS} {Q : e_Rt → e_SS → Prop} (hlen : (e_slx args).length ≤ 4) (j : s_w X d K_X16_far 0 (e_ent0 args 4) [] S (fun r S' => e_rcr (some FieldType.int) r = true ∧ Q r S')) : s_c X d 319 args S Q := c_of rM_X16_far rC_X16_far rfl (fun _ => by contradiction) hlen j
abbrev r_X16_speakingShare : e_MT := ((yX16_speakingShare, 20), (0, false), (2822, 2820, 97, 2821))
abbrev K_X16_speakingShare : e_KT := (20, false, cX16_speakingShare, 1, [])
theorem rM_X16_speakingShare : e_M[320]? = some r_X16_speakingShare := by rfl
theorem rC_X16_speakingShare : e_tb 2822 = some (Cond.code yX16_speakingShare cX16_speakingShare 1 (some FieldType.float)) := by decide +kernel
theorem m_X16_speakingShare {X : e_XT} {d : Nat} {args : List Value} {S : e_SS} {Q : e_Rt → e_SS → Prop} (hlen : (e_slx args).length ≤ 1) (j : s_w X d K_X16_speakingShare 0 (e_ent0 args 1) [] S (fun r S' => e_rcr (some FieldType.float) r = true ∧ Q r S')) : s_c X d 320 args S Q := c_of rM_X16_speakingShare rC_X16_speakingShare rfl (fun _ => by contradiction) hlen j
abbrev r_X16_meanPitch : e_MT := ((yX16_meanPitch, 20), (0, false), (2826, 2824, 97, 2825))
abbrev K_X16_meanPitch : e_KT := (20, false, cX16_meanPitch, 5, [])
theorem rM_X16_meanPitch : e_M[321]? = some r_X16_meanPitch := by rfl
theorem rC_X16_meanPitch : e_tb 2826 = some (Cond.code yX16_meanPitch cX16_meanPitch 5 (some FieldType.double)) := by decide +kernel
theorem m_X16_meanPitch {X : e_XT} {d : Nat} {args : List Value} {S : e_SS} {Q : e_Rt → e_SS → Prop} (hlen : (e_slx args).length ≤ 5) (j : s_w X d K_X16_meanPitch 0 (e_ent0 args 5) [] S (fun r S' => e_rcr (some FieldType.double) r = true ∧ Q r S')) : s_c X d 321 args S Q := c_of rM_X16_meanPitch rC_X16_meanPitch rfl (fun _ => by contradiction) hlen j
abbrev r_X16_isTrue : e_MT := ((yX16_isTrue, 20), (0, false), (2830, 2828, 97, 2829))
abbrev K_X16_isTrue : e_KT := (20, false, cX16_isTrue, 1, [])
theorem rM_X16_isTrue : e_M[322]? = some r_X16_isTrue := by rfl
theorem rC_X16_isTrue : e_tb 2830 = some (Cond.code yX16_isTrue cX16_isTrue 1 (some FieldType.boolean)) := by decide +kernel
theorem m_X16_isTrue {X : e_XT} {d : Nat} {args : List Value} {S : e_SS} {Q : e_Rt → e_SS → Prop} (hlen : (e_slx args).length ≤ 1) (j : s_w X d K_X16_isTrue 0 (e_ent0 args 1) [] S (fun r S' => e_rcr (some FieldType.boolean) r = true ∧ Q r S')) : s_c X d 322 args S Q := c_of rM_X16_isTrue rC_X16_isTrue rfl (fun _ => by contradiction) hlen j
abbrev r_L_rank : e_MT := ((yL_rank, 21), (9, true), (839, 838, 80, 9999))
abbrev K_L_rank : e_KT := (21, false, cL_rank, 10, [(0, 20, 23, 13), (0, 20, 27, 15)])
theorem rM_L_rank : e_M[323]? = some r_L_rank := by rfl
theorem rC_L_rank : e_tb 839 = some (Cond.codeWith yL_rank cL_rank 10 (some FieldType.int) [(0, 20, 23, 13), (0, 20, 27, 15)]) := by decide +kernel
theorem m_L_rank {X : e_XT} {d : Nat} {args : List Value} {S : e_SS} {Q : e_Rt → e_SS → Prop} (hlen : (e_slx args).length ≤ 10) (j : s_w X d K_L_rank 0 (e_ent0 args 10) [] S (fun r S' => e_rcr (some FieldType.int) r = true ∧ Q r S')) : s_c X d 323 args S Q := c_of rM_L_rank rC_L_rank rfl (fun _ => by contradiction) hlen j
abbrev r_L_stop : e_MT := ((yL_stop, 21), (3, true), (1035, 1034, 80, 9999))
abbrev K_L_stop : e_KT := (21, false, cL_stop, 4, [(0, 9, 12, 21), (0, 9, 15, 15)])
theorem rM_L_stop : e_M[324]? = some r_L_stop := by rfl
theorem rC_L_stop : e_tb 1035 = some (Cond.codeWith yL_stop cL_stop 4 (some FieldType.int) [(0, 9, 12, 21), (0, 9, 15, 15)]) := by decide +kernel
theorem m_L_stop {X : e_XT} {d : Nat} {args : List Value} {S : e_SS} {Q : e_Rt → e_SS → Prop} (hlen : (e_slx args).length ≤ 4) (j : s_w X d K_L_stop 0 (e_ent0 args 4) [] S (fun r S' => e_rcr (some FieldType.int) r = true ∧ Q r S')) : s_c X d 324 args S Q := c_of rM_L_stop rC_L_stop rfl (fun _ => by contradiction) hlen j
abbrev r_L_row : e_MT := ((yL_row, 21), (7, true), (1127, 1126, 80, 9999))
abbrev K_L_row : e_KT := (21, false, cL_row, 8, [(0, 16, 19, 21), (0, 16, 23, 13), (0, 16, 27, 27), (0, 16, 31, 15)])
theorem rM_L_row : e_M[325]? = some r_L_row := by rfl
theorem rC_L_row : e_tb 1127 = some (Cond.codeWith yL_row cL_row 8 (some FieldType.int) [(0, 16, 19, 21), (0, 16, 23, 13), (0, 16, 27, 27), (0, 16, 31, 15)]) := by decide +kernel
theorem m_L_row {X : e_XT} {d : Nat} {args : List Value} {S : e_SS} {Q : e_Rt → e_SS → Prop} (hlen : (e_slx args).length ≤ 8) (j : s_w X d K_L_row 0 (e_ent0 args 8) [] S (fun r S' => e_rcr (some FieldType.int) r = true ∧ Q r S')) : s_c X d 325 args S Q := c_of rM_L_row rC_L_row rfl (fun _ => by contradiction) hlen j
abbrev r_L_cross : e_MT := ((yL_cross, 21), (5, true), (1174, 1173, 80, 9999))
abbrev K_L_cross : e_KT := (21, false, cL_cross, 6, [(0, 12, 15, 21), (0, 12, 19, 13), (0, 12, 23, 27)])
theorem rM_L_cross : e_M[326]? = some r_L_cross := by rfl
theorem rC_L_cross : e_tb 1174 = some (Cond.codeWith yL_cross cL_cross 6 (some FieldType.int) [(0, 12, 15, 21), (0, 12, 19, 13), (0, 12, 23, 27)]) := by decide +kernel
theorem m_L_cross {X : e_XT} {d : Nat} {args : List Value} {S : e_SS} {Q : e_Rt → e_SS → Prop} (hlen : (e_slx args).length ≤ 6) (j : s_w X d K_L_cross 0 (e_ent0 args 6) [] S (fun r S' => e_rcr (some FieldType.int) r = true ∧ Q r S')) : s_c X d 326 args S Q := c_of rM_L_cross rC_L_cross rfl (fun _ => by contradiction) hlen j
abbrev r_L_coupler : e_MT := ((yL_coupler, 21), (6, true), (1194, 1193, 80, 9999))
abbrev K_L_coupler : e_KT := (21, false, cL_coupler, 7, [(0, 14, 17, 21), (0, 14, 21, 13), (0, 14, 25, 15)])
theorem rM_L_coupler : e_M[327]? = some r_L_coupler := by rfl
theorem rC_L_coupler : e_tb 1194 = some (Cond.codeWith yL_coupler cL_coupler 7 (some FieldType.int) [(0, 14, 17, 21), (0, 14, 21, 13), (0, 14, 25, 15)]) := by decide +kernel
theorem m_L_coupler {X : e_XT} {d : Nat} {args : List Value} {S : e_SS} {Q : e_Rt → e_SS → Prop} (hlen : (e_slx args).length ≤ 7) (j : s_w X d K_L_coupler 0 (e_ent0 args 7) [] S (fun r S' => e_rcr (some FieldType.int) r = true ∧ Q r S')) : s_c X d 327 args S Q := c_of rM_L_coupler rC_L_coupler rfl (fun _ => by contradiction) hlen j
abbrev r_L_tremulant : e_MT := ((yL_tremulant, 21), (3, true), (1204, 1203, 80, 9999))
abbrev K_L_tremulant : e_KT := (21, false, cL_tremulant, 4, [(0, 9, 12, 21), (0, 9, 15, 15)])
theorem rM_L_tremulant : e_M[328]? = some r_L_tremulant := by rfl
theorem rC_L_tremulant : e_tb 1204 = some (Cond.codeWith yL_tremulant cL_tremulant 4 (some FieldType.int) [(0, 9, 12, 21), (0, 9, 15, 15)]) := by decide +kernel
theorem m_L_tremulant {X : e_XT} {d : Nat} {args : List Value} {S : e_SS} {Q : e_Rt → e_SS → Prop} (hlen : (e_slx args).length ≤ 4) (j : s_w X d K_L_tremulant 0 (e_ent0 args 4) [] S (fun r S' => e_rcr (some FieldType.int) r = true ∧ Q r S')) : s_c X d 328 args S Q := c_of rM_L_tremulant rC_L_tremulant rfl (fun _ => by contradiction) hlen j
abbrev r_L_draw : e_MT := ((yL_draw, 21), (4, true), (1211, 1210, 80, 9999))
abbrev K_L_draw : e_KT := (21, false, cL_draw, 5, [(0, 17, 20, 21)])
theorem rM_L_draw : e_M[329]? = some r_L_draw := by rfl
theorem rC_L_draw : e_tb 1211 = some (Cond.codeWith yL_draw cL_draw 5 (some FieldType.int) [(0, 17, 20, 21)]) := by decide +kernel
theorem m_L_draw {X : e_XT} {d : Nat} {args : List Value} {S : e_SS} {Q : e_Rt → e_SS → Prop} (hlen : (e_slx args).length ≤ 5) (j : s_w X d K_L_draw 0 (e_ent0 args 5) [] S (fun r S' => e_rcr (some FieldType.int) r = true ∧ Q r S')) : s_c X d 329 args S Q := c_of rM_L_draw rC_L_draw rfl (fun _ => by contradiction) hlen j
abbrev r_L_isDrawn : e_MT := ((yL_isDrawn, 21), (3, true), (1218, 1217, 80, 9999))
abbrev K_L_isDrawn : e_KT := (21, false, cL_isDrawn, 4, [(0, 16, 19, 21)])
theorem rM_L_isDrawn : e_M[330]? = some r_L_isDrawn := by rfl
theorem rC_L_isDrawn : e_tb 1218 = some (Cond.codeWith yL_isDrawn cL_isDrawn 4 (some FieldType.int) [(0, 16, 19, 21)]) := by decide +kernel
theorem m_L_isDrawn {X : e_XT} {d : Nat} {args : List Value} {S : e_SS} {Q : e_Rt → e_SS → Prop} (hlen : (e_slx args).length ≤ 4) (j : s_w X d K_L_isDrawn 0 (e_ent0 args 4) [] S (fun r S' => e_rcr (some FieldType.int) r = true ∧ Q r S')) : s_c X d 330 args S Q := c_of rM_L_isDrawn rC_L_isDrawn rfl (fun _ => by contradiction) hlen j
abbrev r_L_isOn : e_MT := ((yL_isOn, 21), (3, true), (1225, 1224, 80, 9999))
abbrev K_L_isOn : e_KT := (21, false, cL_isOn, 4, [(0, 16, 19, 21), (0, 16, 22, 27)])
theorem rM_L_isOn : e_M[331]? = some r_L_isOn := by rfl
theorem rC_L_isOn : e_tb 1225 = some (Cond.codeWith yL_isOn cL_isOn 4 (some FieldType.int) [(0, 16, 19, 21), (0, 16, 22, 27)]) := by decide +kernel
theorem m_L_isOn {X : e_XT} {d : Nat} {args : List Value} {S : e_SS} {Q : e_Rt → e_SS → Prop} (hlen : (e_slx args).length ≤ 4) (j : s_w X d K_L_isOn 0 (e_ent0 args 4) [] S (fun r S' => e_rcr (some FieldType.int) r = true ∧ Q r S')) : s_c X d 331 args S Q := c_of rM_L_isOn rC_L_isOn rfl (fun _ => by contradiction) hlen j
abbrev r_L_lock : e_MT := ((yL_lock, 21), (4, true), (1233, 1232, 80, 9999))
abbrev K_L_lock : e_KT := (21, false, cL_lock, 5, [(0, 17, 20, 21)])
theorem rM_L_lock : e_M[332]? = some r_L_lock := by rfl
theorem rC_L_lock : e_tb 1233 = some (Cond.codeWith yL_lock cL_lock 5 (some FieldType.int) [(0, 17, 20, 21)]) := by decide +kernel
theorem m_L_lock {X : e_XT} {d : Nat} {args : List Value} {S : e_SS} {Q : e_Rt → e_SS → Prop} (hlen : (e_slx args).length ≤ 5) (j : s_w X d K_L_lock 0 (e_ent0 args 5) [] S (fun r S' => e_rcr (some FieldType.int) r = true ∧ Q r S')) : s_c X d 332 args S Q := c_of rM_L_lock rC_L_lock rfl (fun _ => by contradiction) hlen j
abbrev r_L_stage : e_MT := ((yL_stage, 21), (4, true), (1240, 1239, 80, 9999))
abbrev K_L_stage : e_KT := (21, false, cL_stage, 5, [(0, 10, 13, 21), (0, 10, 17, 13), (0, 10, 21, 27)])
theorem rM_L_stage : e_M[333]? = some r_L_stage := by rfl
theorem rC_L_stage : e_tb 1240 = some (Cond.codeWith yL_stage cL_stage 5 (some FieldType.int) [(0, 10, 13, 21), (0, 10, 17, 13), (0, 10, 21, 27)]) := by decide +kernel
theorem m_L_stage {X : e_XT} {d : Nat} {args : List Value} {S : e_SS} {Q : e_Rt → e_SS → Prop} (hlen : (e_slx args).length ≤ 5) (j : s_w X d K_L_stage 0 (e_ent0 args 5) [] S (fun r S' => e_rcr (some FieldType.int) r = true ∧ Q r S')) : s_c X d 333 args S Q := c_of rM_L_stage rC_L_stage rfl (fun _ => by contradiction) hlen j
abbrev r_L_crescendo : e_MT := ((yL_crescendo, 21), (3, true), (1247, 1246, 80, 9999))
abbrev K_L_crescendo : e_KT := (21, false, cL_crescendo, 4, [(0, 9, 12, 13)])
theorem rM_L_crescendo : e_M[334]? = some r_L_crescendo := by rfl
theorem rC_L_crescendo : e_tb 1247 = some (Cond.codeWith yL_crescendo cL_crescendo 4 (some FieldType.int) [(0, 9, 12, 13)]) := by decide +kernel
theorem m_L_crescendo {X : e_XT} {d : Nat} {args : List Value} {S : e_SS} {Q : e_Rt → e_SS → Prop} (hlen : (e_slx args).length ≤ 4) (j : s_w X d K_L_crescendo 0 (e_ent0 args 4) [] S (fun r S' => e_rcr (some FieldType.int) r = true ∧ Q r S')) : s_c X d 334 args S Q := c_of rM_L_crescendo rC_L_crescendo rfl (fun _ => by contradiction) hlen j
abbrev r_L_key : e_MT := ((yL_key, 21), (5, true), (1254, 1253, 80, 9999))
abbrev K_L_key : e_KT := (21, false, cL_key, 6, [(0, 19, 22, 21)])
theorem rM_L_key : e_M[335]? = some r_L_key := by rfl
theorem rC_L_key : e_tb 1254 = some (Cond.codeWith yL_key cL_key 6 (some FieldType.int) [(0, 19, 22, 21)]) := by decide +kernel
theorem m_L_key {X : e_XT} {d : Nat} {args : List Value} {S : e_SS} {Q : e_Rt → e_SS → Prop} (hlen : (e_slx args).length ≤ 6) (j : s_w X d K_L_key 0 (e_ent0 args 6) [] S (fun r S' => e_rcr (some FieldType.int) r = true ∧ Q r S')) : s_c X d 335 args S Q := c_of rM_L_key rC_L_key rfl (fun _ => by contradiction) hlen j
abbrev r_L_isDown : e_MT := ((yL_isDown, 21), (4, true), (1268, 1267, 80, 9999))
abbrev K_L_isDown : e_KT := (21, false, cL_isDown, 5, [(0, 17, 20, 21)])
theorem rM_L_isDown : e_M[336]? = some r_L_isDown := by rfl
theorem rC_L_isDown : e_tb 1268 = some (Cond.codeWith yL_isDown cL_isDown 5 (some FieldType.int) [(0, 17, 20, 21)]) := by decide +kernel
theorem m_L_isDown {X : e_XT} {d : Nat} {args : List Value} {S : e_SS} {Q : e_Rt → e_SS → Prop} (hlen : (e_slx args).length ≤ 5) (j : s_w X d K_L_isDown 0 (e_ent0 args 5) [] S (fun r S' => e_rcr (some FieldType.int) r = true ∧ Q r S')) : s_c X d 336 args S Q := c_of rM_L_isDown rC_L_isDown rfl (fun _ => by contradiction) hlen j
abbrev r_L_pass : e_MT := ((yL_pass, 21), (3, true), (1275, 1274, 80, 9999))
abbrev K_L_pass : e_KT := (21, false, cL_pass, 4, [(0, 9, 12, 13)])
theorem rM_L_pass : e_M[337]? = some r_L_pass := by rfl
theorem rC_L_pass : e_tb 1275 = some (Cond.codeWith yL_pass cL_pass 4 (some FieldType.int) [(0, 9, 12, 13)]) := by decide +kernel
theorem m_L_pass {X : e_XT} {d : Nat} {args : List Value} {S : e_SS} {Q : e_Rt → e_SS → Prop} (hlen : (e_slx args).length ≤ 4) (j : s_w X d K_L_pass 0 (e_ent0 args 4) [] S (fun r S' => e_rcr (some FieldType.int) r = true ∧ Q r S')) : s_c X d 337 args S Q := c_of rM_L_pass rC_L_pass rfl (fun _ => by contradiction) hlen j
abbrev r_L_reasons : e_MT := ((yL_reasons, 21), (4, true), (1294, 1293, 80, 9999))
abbrev K_L_reasons : e_KT := (21, false, cL_reasons, 5, [(0, 10, 13, 21)])
theorem rM_L_reasons : e_M[338]? = some r_L_reasons := by rfl
theorem rC_L_reasons : e_tb 1294 = some (Cond.codeWith yL_reasons cL_reasons 5 (some FieldType.int) [(0, 10, 13, 21)]) := by decide +kernel
theorem m_L_reasons {X : e_XT} {d : Nat} {args : List Value} {S : e_SS} {Q : e_Rt → e_SS → Prop} (hlen : (e_slx args).length ≤ 5) (j : s_w X d K_L_reasons 0 (e_ent0 args 5) [] S (fun r S' => e_rcr (some FieldType.int) r = true ∧ Q r S')) : s_c X d 338 args S Q := c_of rM_L_reasons rC_L_reasons rfl (fun _ => by contradiction) hlen j
abbrev r_L_reasonsAnew : e_MT := ((yL_reasonsAnew, 21), (4, true), (1308, 1307, 80, 9999))
abbrev K_L_reasonsAnew : e_KT := (21, false, cL_reasonsAnew, 5, [(0, 10, 13, 21)])
theorem rM_L_reasonsAnew : e_M[339]? = some r_L_reasonsAnew := by rfl
theorem rC_L_reasonsAnew : e_tb 1308 = some (Cond.codeWith yL_reasonsAnew cL_reasonsAnew 5 (some FieldType.int) [(0, 10, 13, 21)]) := by decide +kernel
theorem m_L_reasonsAnew {X : e_XT} {d : Nat} {args : List Value} {S : e_SS} {Q : e_Rt → e_SS → Prop} (hlen : (e_slx args).length ≤ 5) (j : s_w X d K_L_reasonsAnew 0 (e_ent0 args 5) [] S (fun r S' => e_rcr (some FieldType.int) r = true ∧ Q r S')) : s_c X d 339 args S Q := c_of rM_L_reasonsAnew rC_L_reasonsAnew rfl (fun _ => by contradiction) hlen j
abbrev r_L_isOpen : e_MT := ((yL_isOpen, 21), (4, true), (1316, 1315, 80, 9999))
abbrev K_L_isOpen : e_KT := (21, false, cL_isOpen, 5, [(0, 17, 20, 21)])
theorem rM_L_isOpen : e_M[340]? = some r_L_isOpen := by rfl
theorem rC_L_isOpen : e_tb 1316 = some (Cond.codeWith yL_isOpen cL_isOpen 5 (some FieldType.int) [(0, 17, 20, 21)]) := by decide +kernel
theorem m_L_isOpen {X : e_XT} {d : Nat} {args : List Value} {S : e_SS} {Q : e_Rt → e_SS → Prop} (hlen : (e_slx args).length ≤ 5) (j : s_w X d K_L_isOpen 0 (e_ent0 args 5) [] S (fun r S' => e_rcr (some FieldType.int) r = true ∧ Q r S')) : s_c X d 340 args S Q := c_of rM_L_isOpen rC_L_isOpen rfl (fun _ => by contradiction) hlen j
abbrev r_L_speaks : e_MT := ((yL_speaks, 21), (4, true), (1323, 1322, 80, 9999))
abbrev K_L_speaks : e_KT := (21, false, cL_speaks, 5, [(0, 17, 20, 21)])
theorem rM_L_speaks : e_M[341]? = some r_L_speaks := by rfl
theorem rC_L_speaks : e_tb 1323 = some (Cond.codeWith yL_speaks cL_speaks 5 (some FieldType.int) [(0, 17, 20, 21)]) := by decide +kernel
theorem m_L_speaks {X : e_XT} {d : Nat} {args : List Value} {S : e_SS} {Q : e_Rt → e_SS → Prop} (hlen : (e_slx args).length ≤ 5) (j : s_w X d K_L_speaks 0 (e_ent0 args 5) [] S (fun r S' => e_rcr (some FieldType.int) r = true ∧ Q r S')) : s_c X d 341 args S Q := c_of rM_L_speaks rC_L_speaks rfl (fun _ => by contradiction) hlen j
abbrev r_L_begun : e_MT := ((yL_begun, 21), (4, true), (1330, 1329, 80, 9999))
abbrev K_L_begun : e_KT := (21, false, cL_begun, 5, [(0, 10, 13, 21)])
theorem rM_L_begun : e_M[342]? = some r_L_begun := by rfl
theorem rC_L_begun : e_tb 1330 = some (Cond.codeWith yL_begun cL_begun 5 (some FieldType.int) [(0, 10, 13, 21)]) := by decide +kernel
theorem m_L_begun {X : e_XT} {d : Nat} {args : List Value} {S : e_SS} {Q : e_Rt → e_SS → Prop} (hlen : (e_slx args).length ≤ 5) (j : s_w X d K_L_begun 0 (e_ent0 args 5) [] S (fun r S' => e_rcr (some FieldType.int) r = true ∧ Q r S')) : s_c X d 342 args S Q := c_of rM_L_begun rC_L_begun rfl (fun _ => by contradiction) hlen j
abbrev r_L_supply : e_MT := ((yL_supply, 21), (4, true), (1337, 1336, 80, 9999))
abbrev K_L_supply : e_KT := (21, false, cL_supply, 5, [(0, 10, 13, 21), (0, 10, 17, 13)])
theorem rM_L_supply : e_M[343]? = some r_L_supply := by rfl
theorem rC_L_supply : e_tb 1337 = some (Cond.codeWith yL_supply cL_supply 5 (some FieldType.int) [(0, 10, 13, 21), (0, 10, 17, 13)]) := by decide +kernel
theorem m_L_supply {X : e_XT} {d : Nat} {args : List Value} {S : e_SS} {Q : e_Rt → e_SS → Prop} (hlen : (e_slx args).length ≤ 5) (j : s_w X d K_L_supply 0 (e_ent0 args 5) [] S (fun r S' => e_rcr (some FieldType.int) r = true ∧ Q r S')) : s_c X d 343 args S Q := c_of rM_L_supply rC_L_supply rfl (fun _ => by contradiction) hlen j
abbrev r_L_wind : e_MT := ((yL_wind, 21), (3, true), (1344, 1343, 80, 9999))
abbrev K_L_wind : e_KT := (21, false, cL_wind, 4, [(0, 9, 12, 21)])
theorem rM_L_wind : e_M[344]? = some r_L_wind := by rfl
theorem rC_L_wind : e_tb 1344 = some (Cond.codeWith yL_wind cL_wind 4 (some FieldType.int) [(0, 9, 12, 21)]) := by decide +kernel
theorem m_L_wind {X : e_XT} {d : Nat} {args : List Value} {S : e_SS} {Q : e_Rt → e_SS → Prop} (hlen : (e_slx args).length ≤ 4) (j : s_w X d K_L_wind 0 (e_ent0 args 4) [] S (fun r S' => e_rcr (some FieldType.int) r = true ∧ Q r S')) : s_c X d 344 args S Q := c_of rM_L_wind rC_L_wind rfl (fun _ => by contradiction) hlen j
abbrev r_L_box : e_MT := ((yL_box, 21), (4, true), (1351, 1350, 80, 9999))
abbrev K_L_box : e_KT := (21, false, cL_box, 5, [(0, 10, 13, 13)])
theorem rM_L_box : e_M[345]? = some r_L_box := by rfl
theorem rC_L_box : e_tb 1351 = some (Cond.codeWith yL_box cL_box 5 (some FieldType.int) [(0, 10, 13, 13)]) := by decide +kernel
theorem m_L_box {X : e_XT} {d : Nat} {args : List Value} {S : e_SS} {Q : e_Rt → e_SS → Prop} (hlen : (e_slx args).length ≤ 5) (j : s_w X d K_L_box 0 (e_ent0 args 5) [] S (fun r S' => e_rcr (some FieldType.int) r = true ∧ Q r S')) : s_c X d 345 args S Q := c_of rM_L_box rC_L_box rfl (fun _ => by contradiction) hlen j
abbrev r_L_temper : e_MT := ((yL_temper, 21), (4, true), (1358, 1357, 80, 9999))
abbrev K_L_temper : e_KT := (21, false, cL_temper, 5, [(0, 10, 13, 13)])
theorem rM_L_temper : e_M[346]? = some r_L_temper := by rfl
theorem rC_L_temper : e_tb 1358 = some (Cond.codeWith yL_temper cL_temper 5 (some FieldType.int) [(0, 10, 13, 13)]) := by decide +kernel
theorem m_L_temper {X : e_XT} {d : Nat} {args : List Value} {S : e_SS} {Q : e_Rt → e_SS → Prop} (hlen : (e_slx args).length ≤ 5) (j : s_w X d K_L_temper 0 (e_ent0 args 5) [] S (fun r S' => e_rcr (some FieldType.int) r = true ∧ Q r S')) : s_c X d 346 args S Q := c_of rM_L_temper rC_L_temper rfl (fun _ => by contradiction) hlen j
abbrev r_L_tune : e_MT := ((yL_tune, 21), (5, true), (1365, 1364, 80, 9999))
abbrev K_L_tune : e_KT := (21, false, cL_tune, 6, [(0, 12, 15, 21), (0, 12, 19, 13)])
theorem rM_L_tune : e_M[347]? = some r_L_tune := by rfl
theorem rC_L_tune : e_tb 1365 = some (Cond.codeWith yL_tune cL_tune 6 (some FieldType.int) [(0, 12, 15, 21), (0, 12, 19, 13)]) := by decide +kernel
theorem m_L_tune {X : e_XT} {d : Nat} {args : List Value} {S : e_SS} {Q : e_Rt → e_SS → Prop} (hlen : (e_slx args).length ≤ 6) (j : s_w X d K_L_tune 0 (e_ent0 args 6) [] S (fun r S' => e_rcr (some FieldType.int) r = true ∧ Q r S')) : s_c X d 347 args S Q := c_of rM_L_tune rC_L_tune rfl (fun _ => by contradiction) hlen j
abbrev r_L_tuneTo : e_MT := ((yL_tuneTo, 21), (6, true), (1372, 1371, 80, 9999))
abbrev K_L_tuneTo : e_KT := (21, false, cL_tuneTo, 7, [(0, 14, 17, 21)])
theorem rM_L_tuneTo : e_M[348]? = some r_L_tuneTo := by rfl
theorem rC_L_tuneTo : e_tb 1372 = some (Cond.codeWith yL_tuneTo cL_tuneTo 7 (some FieldType.int) [(0, 14, 17, 21)]) := by decide +kernel
theorem m_L_tuneTo {X : e_XT} {d : Nat} {args : List Value} {S : e_SS} {Q : e_Rt → e_SS → Prop} (hlen : (e_slx args).length ≤ 7) (j : s_w X d K_L_tuneTo 0 (e_ent0 args 7) [] S (fun r S' => e_rcr (some FieldType.int) r = true ∧ Q r S')) : s_c X d 348 args S Q := c_of rM_L_tuneTo rC_L_tuneTo rfl (fun _ => by contradiction) hlen j
abbrev r_L_heat : e_MT := ((yL_heat, 21), (5, true), (1386, 1385, 80, 9999))
abbrev K_L_heat : e_KT := (21, false, cL_heat, 6, [(0, 12, 15, 21), (0, 12, 19, 13)])
theorem rM_L_heat : e_M[349]? = some r_L_heat := by rfl
theorem rC_L_heat : e_tb 1386 = some (Cond.codeWith yL_heat cL_heat 6 (some FieldType.int) [(0, 12, 15, 21), (0, 12, 19, 13)]) := by decide +kernel
theorem m_L_heat {X : e_XT} {d : Nat} {args : List Value} {S : e_SS} {Q : e_Rt → e_SS → Prop} (hlen : (e_slx args).length ≤ 6) (j : s_w X d K_L_heat 0 (e_ent0 args 6) [] S (fun r S' => e_rcr (some FieldType.int) r = true ∧ Q r S')) : s_c X d 349 args S Q := c_of rM_L_heat rC_L_heat rfl (fun _ => by contradiction) hlen j
abbrev r_L_pitch : e_MT := ((yL_pitch, 21), (4, true), (1393, 1392, 80, 9999))
abbrev K_L_pitch : e_KT := (21, false, cL_pitch, 5, [(0, 10, 13, 21)])
theorem rM_L_pitch : e_M[350]? = some r_L_pitch := by rfl
theorem rC_L_pitch : e_tb 1393 = some (Cond.codeWith yL_pitch cL_pitch 5 (some FieldType.int) [(0, 10, 13, 21)]) := by decide +kernel
theorem m_L_pitch {X : e_XT} {d : Nat} {args : List Value} {S : e_SS} {Q : e_Rt → e_SS → Prop} (hlen : (e_slx args).length ≤ 5) (j : s_w X d K_L_pitch 0 (e_ent0 args 5) [] S (fun r S' => e_rcr (some FieldType.int) r = true ∧ Q r S')) : s_c X d 350 args S Q := c_of rM_L_pitch rC_L_pitch rfl (fun _ => by contradiction) hlen j
abbrev r_L_fault : e_MT := ((yL_fault, 21), (5, true), (1400, 1399, 80, 9999))
abbrev K_L_fault : e_KT := (21, false, cL_fault, 6, [(0, 12, 15, 21), (0, 12, 19, 13)])
theorem rM_L_fault : e_M[351]? = some r_L_fault := by rfl
theorem rC_L_fault : e_tb 1400 = some (Cond.codeWith yL_fault cL_fault 6 (some FieldType.int) [(0, 12, 15, 21), (0, 12, 19, 13)]) := by decide +kernel
theorem m_L_fault {X : e_XT} {d : Nat} {args : List Value} {S : e_SS} {Q : e_Rt → e_SS → Prop} (hlen : (e_slx args).length ≤ 6) (j : s_w X d K_L_fault 0 (e_ent0 args 6) [] S (fun r S' => e_rcr (some FieldType.int) r = true ∧ Q r S')) : s_c X d 351 args S Q := c_of rM_L_fault rC_L_fault rfl (fun _ => by contradiction) hlen j
abbrev r_L_hunt : e_MT := ((yL_hunt, 21), (3, true), (1408, 1407, 80, 9999))
abbrev K_L_hunt : e_KT := (21, false, cL_hunt, 4, [(0, 9, 12, 21)])
theorem rM_L_hunt : e_M[352]? = some r_L_hunt := by rfl
theorem rC_L_hunt : e_tb 1408 = some (Cond.codeWith yL_hunt cL_hunt 4 (some FieldType.int) [(0, 9, 12, 21)]) := by decide +kernel
theorem m_L_hunt {X : e_XT} {d : Nat} {args : List Value} {S : e_SS} {Q : e_Rt → e_SS → Prop} (hlen : (e_slx args).length ≤ 4) (j : s_w X d K_L_hunt 0 (e_ent0 args 4) [] S (fun r S' => e_rcr (some FieldType.int) r = true ∧ Q r S')) : s_c X d 352 args S Q := c_of rM_L_hunt rC_L_hunt rfl (fun _ => by contradiction) hlen j
abbrev r_L_guest : e_MT := ((yL_guest, 21), (3, true), (1425, 1424, 80, 9999))
abbrev K_L_guest : e_KT := (21, false, cL_guest, 4, [(0, 9, 12, 13)])
theorem rM_L_guest : e_M[353]? = some r_L_guest := by rfl
theorem rC_L_guest : e_tb 1425 = some (Cond.codeWith yL_guest cL_guest 4 (some FieldType.int) [(0, 9, 12, 13)]) := by decide +kernel
theorem m_L_guest {X : e_XT} {d : Nat} {args : List Value} {S : e_SS} {Q : e_Rt → e_SS → Prop} (hlen : (e_slx args).length ≤ 4) (j : s_w X d K_L_guest 0 (e_ent0 args 4) [] S (fun r S' => e_rcr (some FieldType.int) r = true ∧ Q r S')) : s_c X d 353 args S Q := c_of rM_L_guest rC_L_guest rfl (fun _ => by contradiction) hlen j
abbrev r_L_claim : e_MT := ((yL_claim, 21), (3, true), (1436, 1435, 80, 9999))
abbrev K_L_claim : e_KT := (21, false, cL_claim, 4, [(0, 16, 19, 27)])
theorem rM_L_claim : e_M[354]? = some r_L_claim := by rfl
theorem rC_L_claim : e_tb 1436 = some (Cond.codeWith yL_claim cL_claim 4 (some FieldType.int) [(0, 16, 19, 27)]) := by decide +kernel
theorem m_L_claim {X : e_XT} {d : Nat} {args : List Value} {S : e_SS} {Q : e_Rt → e_SS → Prop} (hlen : (e_slx args).length ≤ 4) (j : s_w X d K_L_claim 0 (e_ent0 args 4) [] S (fun r S' => e_rcr (some FieldType.int) r = true ∧ Q r S')) : s_c X d 354 args S Q := c_of rM_L_claim rC_L_claim rfl (fun _ => by contradiction) hlen j
abbrev r_L_level : e_MT := ((yL_level, 21), (3, true), (1461, 1460, 80, 9999))
abbrev K_L_level : e_KT := (21, false, cL_level, 4, [(0, 9, 12, 13)])
theorem rM_L_level : e_M[355]? = some r_L_level := by rfl
theorem rC_L_level : e_tb 1461 = some (Cond.codeWith yL_level cL_level 4 (some FieldType.int) [(0, 9, 12, 13)]) := by decide +kernel
theorem m_L_level {X : e_XT} {d : Nat} {args : List Value} {S : e_SS} {Q : e_Rt → e_SS → Prop} (hlen : (e_slx args).length ≤ 4) (j : s_w X d K_L_level 0 (e_ent0 args 4) [] S (fun r S' => e_rcr (some FieldType.int) r = true ∧ Q r S')) : s_c X d 355 args S Q := c_of rM_L_level rC_L_level rfl (fun _ => by contradiction) hlen j
abbrev r_L_scope : e_MT := ((yL_scope, 21), (4, true), (1472, 1471, 80, 9999))
abbrev K_L_scope : e_KT := (21, false, cL_scope, 5, [(0, 17, 20, 21)])
theorem rM_L_scope : e_M[356]? = some r_L_scope := by rfl
theorem rC_L_scope : e_tb 1472 = some (Cond.codeWith yL_scope cL_scope 5 (some FieldType.int) [(0, 17, 20, 21)]) := by decide +kernel
theorem m_L_scope {X : e_XT} {d : Nat} {args : List Value} {S : e_SS} {Q : e_Rt → e_SS → Prop} (hlen : (e_slx args).length ≤ 5) (j : s_w X d K_L_scope 0 (e_ent0 args 5) [] S (fun r S' => e_rcr (some FieldType.int) r = true ∧ Q r S')) : s_c X d 356 args S Q := c_of rM_L_scope rC_L_scope rfl (fun _ => by contradiction) hlen j
abbrev r_L_set : e_MT := ((yL_set, 21), (4, true), (1479, 1478, 80, 9999))
abbrev K_L_set : e_KT := (21, false, cL_set, 5, [(0, 10, 13, 21), (0, 10, 17, 27)])
theorem rM_L_set : e_M[357]? = some r_L_set := by rfl
theorem rC_L_set : e_tb 1479 = some (Cond.codeWith yL_set cL_set 5 (some FieldType.int) [(0, 10, 13, 21), (0, 10, 17, 27)]) := by decide +kernel
theorem m_L_set {X : e_XT} {d : Nat} {args : List Value} {S : e_SS} {Q : e_Rt → e_SS → Prop} (hlen : (e_slx args).length ≤ 5) (j : s_w X d K_L_set 0 (e_ent0 args 5) [] S (fun r S' => e_rcr (some FieldType.int) r = true ∧ Q r S')) : s_c X d 357 args S Q := c_of rM_L_set rC_L_set rfl (fun _ => by contradiction) hlen j
abbrev r_L_push : e_MT := ((yL_push, 21), (4, true), (1512, 1511, 80, 9999))
abbrev K_L_push : e_KT := (21, false, cL_push, 5, [(0, 10, 13, 21), (0, 10, 17, 138)])
theorem rM_L_push : e_M[358]? = some r_L_push := by rfl
theorem rC_L_push : e_tb 1512 = some (Cond.codeWith yL_push cL_push 5 (some FieldType.int) [(0, 10, 13, 21), (0, 10, 17, 138)]) := by decide +kernel
theorem m_L_push {X : e_XT} {d : Nat} {args : List Value} {S : e_SS} {Q : e_Rt → e_SS → Prop} (hlen : (e_slx args).length ≤ 5) (j : s_w X d K_L_push 0 (e_ent0 args 5) [] S (fun r S' => e_rcr (some FieldType.int) r = true ∧ Q r S')) : s_c X d 358 args S Q := c_of rM_L_push rC_L_push rfl (fun _ => by contradiction) hlen j
abbrev r_L_setReversible : e_MT := ((yL_setReversible, 21), (4, true), (1536, 1535, 80, 9999))
abbrev K_L_setReversible : e_KT := (21, false, cL_setReversible, 5, [(0, 10, 13, 21), (0, 10, 17, 27)])
theorem rM_L_setReversible : e_M[359]? = some r_L_setReversible := by rfl
theorem rC_L_setReversible : e_tb 1536 = some (Cond.codeWith yL_setReversible cL_setReversible 5 (some FieldType.int) [(0, 10, 13, 21), (0, 10, 17, 27)]) := by decide +kernel
theorem m_L_setReversible {X : e_XT} {d : Nat} {args : List Value} {S : e_SS} {Q : e_Rt → e_SS → Prop} (hlen : (e_slx args).length ≤ 5) (j : s_w X d K_L_setReversible 0 (e_ent0 args 5) [] S (fun r S' => e_rcr (some FieldType.int) r = true ∧ Q r S')) : s_c X d 359 args S Q := c_of rM_L_setReversible rC_L_setReversible rfl (fun _ => by contradiction) hlen j
abbrev r_L_pushReversible : e_MT := ((yL_pushReversible, 21), (3, true), (1555, 1554, 80, 9999))
abbrev K_L_pushReversible : e_KT := (21, false, cL_pushReversible, 4, [(0, 16, 19, 21), (0, 16, 22, 138)])
theorem rM_L_pushReversible : e_M[360]? = some r_L_pushReversible := by rfl
theorem rC_L_pushReversible : e_tb 1555 = some (Cond.codeWith yL_pushReversible cL_pushReversible 4 (some FieldType.int) [(0, 16, 19, 21), (0, 16, 22, 138)]) := by decide +kernel
theorem m_L_pushReversible {X : e_XT} {d : Nat} {args : List Value} {S : e_SS} {Q : e_Rt → e_SS → Prop} (hlen : (e_slx args).length ≤ 4) (j : s_w X d K_L_pushReversible 0 (e_ent0 args 4) [] S (fun r S' => e_rcr (some FieldType.int) r = true ∧ Q r S')) : s_c X d 360 args S Q := c_of rM_L_pushReversible rC_L_pushReversible rfl (fun _ => by contradiction) hlen j
abbrev r_L_frame : e_MT := ((yL_frame, 21), (3, true), (1563, 1562, 80, 9999))
abbrev K_L_frame : e_KT := (21, false, cL_frame, 4, [(0, 9, 12, 21), (0, 9, 15, 15)])
theorem rM_L_frame : e_M[361]? = some r_L_frame := by rfl
theorem rC_L_frame : e_tb 1563 = some (Cond.codeWith yL_frame cL_frame 4 (some FieldType.int) [(0, 9, 12, 21), (0, 9, 15, 15)]) := by decide +kernel
theorem m_L_frame {X : e_XT} {d : Nat} {args : List Value} {S : e_SS} {Q : e_Rt → e_SS → Prop} (hlen : (e_slx args).length ≤ 4) (j : s_w X d K_L_frame 0 (e_ent0 args 4) [] S (fun r S' => e_rcr (some FieldType.int) r = true ∧ Q r S')) : s_c X d 361 args S Q := c_of rM_L_frame rC_L_frame rfl (fun _ => by contradiction) hlen j
abbrev r_L_cut : e_MT := ((yL_cut, 21), (3, true), (1586, 1585, 80, 9999))
abbrev K_L_cut : e_KT := (21, false, cL_cut, 4, [(0, 9, 12, 21)])
theorem rM_L_cut : e_M[362]? = some r_L_cut := by rfl
theorem rC_L_cut : e_tb 1586 = some (Cond.codeWith yL_cut cL_cut 4 (some FieldType.int) [(0, 9, 12, 21)]) := by decide +kernel
theorem m_L_cut {X : e_XT} {d : Nat} {args : List Value} {S : e_SS} {Q : e_Rt → e_SS → Prop} (hlen : (e_slx args).length ≤ 4) (j : s_w X d K_L_cut 0 (e_ent0 args 4) [] S (fun r S' => e_rcr (some FieldType.int) r = true ∧ Q r S')) : s_c X d 362 args S Q := c_of rM_L_cut rC_L_cut rfl (fun _ => by contradiction) hlen j
abbrev r_L_turnTo : e_MT := ((yL_turnTo, 21), (3, true), (1602, 1601, 80, 9999))
abbrev K_L_turnTo : e_KT := (21, false, cL_turnTo, 4, [(0, 9, 12, 21)])
theorem rM_L_turnTo : e_M[363]? = some r_L_turnTo := by rfl
theorem rC_L_turnTo : e_tb 1602 = some (Cond.codeWith yL_turnTo cL_turnTo 4 (some FieldType.int) [(0, 9, 12, 21)]) := by decide +kernel
theorem m_L_turnTo {X : e_XT} {d : Nat} {args : List Value} {S : e_SS} {Q : e_Rt → e_SS → Prop} (hlen : (e_slx args).length ≤ 4) (j : s_w X d K_L_turnTo 0 (e_ent0 args 4) [] S (fun r S' => e_rcr (some FieldType.int) r = true ∧ Q r S')) : s_c X d 363 args S Q := c_of rM_L_turnTo rC_L_turnTo rfl (fun _ => by contradiction) hlen j
abbrev r_L_wire : e_MT := ((yL_wire, 21), (6, true), (1617, 1616, 80, 9999))
abbrev K_L_wire : e_KT := (21, false, cL_wire, 7, [(0, 21, 24, 21), (0, 21, 28, 13)])
theorem rM_L_wire : e_M[364]? = some r_L_wire := by rfl
theorem rC_L_wire : e_tb 1617 = some (Cond.codeWith yL_wire cL_wire 7 (some FieldType.int) [(0, 21, 24, 21), (0, 21, 28, 13)]) := by decide +kernel
theorem m_L_wire {X : e_XT} {d : Nat} {args : List Value} {S : e_SS} {Q : e_Rt → e_SS → Prop} (hlen : (e_slx args).length ≤ 7) (j : s_w X d K_L_wire 0 (e_ent0 args 7) [] S (fun r S' => e_rcr (some FieldType.int) r = true ∧ Q r S')) : s_c X d 364 args S Q := c_of rM_L_wire rC_L_wire rfl (fun _ => by contradiction) hlen j
abbrev r_L_isOnRelay : e_MT := ((yL_isOnRelay, 21), (3, true), (1639, 1638, 80, 9999))
abbrev K_L_isOnRelay : e_KT := (21, false, cL_isOnRelay, 4, [(0, 16, 19, 21)])
theorem rM_L_isOnRelay : e_M[365]? = some r_L_isOnRelay := by rfl
theorem rC_L_isOnRelay : e_tb 1639 = some (Cond.codeWith yL_isOnRelay cL_isOnRelay 4 (some FieldType.int) [(0, 16, 19, 21)]) := by decide +kernel
theorem m_L_isOnRelay {X : e_XT} {d : Nat} {args : List Value} {S : e_SS} {Q : e_Rt → e_SS → Prop} (hlen : (e_slx args).length ≤ 4) (j : s_w X d K_L_isOnRelay 0 (e_ent0 args 4) [] S (fun r S' => e_rcr (some FieldType.int) r = true ∧ Q r S')) : s_c X d 365 args S Q := c_of rM_L_isOnRelay rC_L_isOnRelay rfl (fun _ => by contradiction) hlen j
abbrev r_L_drive : e_MT := ((yL_drive, 21), (4, true), (1646, 1645, 80, 9999))
abbrev K_L_drive : e_KT := (21, false, cL_drive, 5, [(0, 10, 13, 21)])
theorem rM_L_drive : e_M[366]? = some r_L_drive := by rfl
theorem rC_L_drive : e_tb 1646 = some (Cond.codeWith yL_drive cL_drive 5 (some FieldType.int) [(0, 10, 13, 21)]) := by decide +kernel
theorem m_L_drive {X : e_XT} {d : Nat} {args : List Value} {S : e_SS} {Q : e_Rt → e_SS → Prop} (hlen : (e_slx args).length ≤ 5) (j : s_w X d K_L_drive 0 (e_ent0 args 5) [] S (fun r S' => e_rcr (some FieldType.int) r = true ∧ Q r S')) : s_c X d 366 args S Q := c_of rM_L_drive rC_L_drive rfl (fun _ => by contradiction) hlen j
abbrev r_L_record : e_MT := ((yL_record, 21), (3, true), (1653, 1652, 80, 9999))
abbrev K_L_record : e_KT := (21, false, cL_record, 4, [(0, 9, 12, 13)])
theorem rM_L_record : e_M[367]? = some r_L_record := by rfl
theorem rC_L_record : e_tb 1653 = some (Cond.codeWith yL_record cL_record 4 (some FieldType.int) [(0, 9, 12, 13)]) := by decide +kernel
theorem m_L_record {X : e_XT} {d : Nat} {args : List Value} {S : e_SS} {Q : e_Rt → e_SS → Prop} (hlen : (e_slx args).length ≤ 4) (j : s_w X d K_L_record 0 (e_ent0 args 4) [] S (fun r S' => e_rcr (some FieldType.int) r = true ∧ Q r S')) : s_c X d 367 args S Q := c_of rM_L_record rC_L_record rfl (fun _ => by contradiction) hlen j
abbrev r_L_playBack : e_MT := ((yL_playBack, 21), (2, true), (1665, 1664, 80, 9999))
abbrev K_L_playBack : e_KT := (21, false, cL_playBack, 3, [(0, 8, 11, 138)])
theorem rM_L_playBack : e_M[368]? = some r_L_playBack := by rfl
theorem rC_L_playBack : e_tb 1665 = some (Cond.codeWith yL_playBack cL_playBack 3 (some FieldType.int) [(0, 8, 11, 138)]) := by decide +kernel
theorem m_L_playBack {X : e_XT} {d : Nat} {args : List Value} {S : e_SS} {Q : e_Rt → e_SS → Prop} (hlen : (e_slx args).length ≤ 3) (j : s_w X d K_L_playBack 0 (e_ent0 args 3) [] S (fun r S' => e_rcr (some FieldType.int) r = true ∧ Q r S')) : s_c X d 368 args S Q := c_of rM_L_playBack rC_L_playBack rfl (fun _ => by contradiction) hlen j
abbrev r_L_scale : e_MT := ((yL_scale, 21), (4, true), (1701, 1700, 80, 9999))
abbrev K_L_scale : e_KT := (21, false, cL_scale, 5, [(0, 10, 13, 13)])
theorem rM_L_scale : e_M[369]? = some r_L_scale := by rfl
theorem rC_L_scale : e_tb 1701 = some (Cond.codeWith yL_scale cL_scale 5 (some FieldType.int) [(0, 10, 13, 13)]) := by decide +kernel
theorem m_L_scale {X : e_XT} {d : Nat} {args : List Value} {S : e_SS} {Q : e_Rt → e_SS → Prop} (hlen : (e_slx args).length ≤ 5) (j : s_w X d K_L_scale 0 (e_ent0 args 5) [] S (fun r S' => e_rcr (some FieldType.int) r = true ∧ Q r S')) : s_c X d 369 args S Q := c_of rM_L_scale rC_L_scale rfl (fun _ => by contradiction) hlen j
abbrev r_L_realise : e_MT := ((yL_realise, 21), (4, true), (1712, 1711, 80, 9999))
abbrev K_L_realise : e_KT := (21, false, cL_realise, 5, [(0, 10, 13, 21), (0, 10, 17, 13), (0, 10, 21, 27)])
theorem rM_L_realise : e_M[370]? = some r_L_realise := by rfl
theorem rC_L_realise : e_tb 1712 = some (Cond.codeWith yL_realise cL_realise 5 (some FieldType.int) [(0, 10, 13, 21), (0, 10, 17, 13), (0, 10, 21, 27)]) := by decide +kernel
theorem m_L_realise {X : e_XT} {d : Nat} {args : List Value} {S : e_SS} {Q : e_Rt → e_SS → Prop} (hlen : (e_slx args).length ≤ 5) (j : s_w X d K_L_realise 0 (e_ent0 args 5) [] S (fun r S' => e_rcr (some FieldType.int) r = true ∧ Q r S')) : s_c X d 370 args S Q := c_of rM_L_realise rC_L_realise rfl (fun _ => by contradiction) hlen j
abbrev r_L_speakingShare : e_MT := ((yL_speakingShare, 21), (2, true), (1789, 1788, 80, 9999))
abbrev K_L_speakingShare : e_KT := (21, false, cL_speakingShare, 3, [(0, 8, 11, 185)])
theorem rM_L_speakingShare : e_M[371]? = some r_L_speakingShare := by rfl
theorem rC_L_speakingShare : e_tb 1789 = some (Cond.codeWith yL_speakingShare cL_speakingShare 3 (some FieldType.int) [(0, 8, 11, 185)]) := by decide +kernel
theorem m_L_speakingShare {X : e_XT} {d : Nat} {args : List Value} {S : e_SS} {Q : e_Rt → e_SS → Prop} (hlen : (e_slx args).length ≤ 3) (j : s_w X d K_L_speakingShare 0 (e_ent0 args 3) [] S (fun r S' => e_rcr (some FieldType.int) r = true ∧ Q r S')) : s_c X d 371 args S Q := c_of rM_L_speakingShare rC_L_speakingShare rfl (fun _ => by contradiction) hlen j
abbrev r_L_meanPitch : e_MT := ((yL_meanPitch, 21), (2, true), (1817, 1816, 80, 9999))
abbrev K_L_meanPitch : e_KT := (21, false, cL_meanPitch, 3, [(0, 7, 10, 185)])
theorem rM_L_meanPitch : e_M[372]? = some r_L_meanPitch := by rfl
theorem rC_L_meanPitch : e_tb 1817 = some (Cond.codeWith yL_meanPitch cL_meanPitch 3 (some FieldType.int) [(0, 7, 10, 185)]) := by decide +kernel
theorem m_L_meanPitch {X : e_XT} {d : Nat} {args : List Value} {S : e_SS} {Q : e_Rt → e_SS → Prop} (hlen : (e_slx args).length ≤ 3) (j : s_w X d K_L_meanPitch 0 (e_ent0 args 3) [] S (fun r S' => e_rcr (some FieldType.int) r = true ∧ Q r S')) : s_c X d 372 args S Q := c_of rM_L_meanPitch rC_L_meanPitch rfl (fun _ => by contradiction) hlen j
abbrev r_Jxc12de_init_da8c8 : e_MT := ((yJxc12de_init_da8c8, 22), (0, false), (180, 179, 87, 9999))
abbrev K_Jxc12de_init_da8c8 : e_KT := (22, true, cJxc12de_init_da8c8, 1, [])
theorem rM_Jxc12de_init_da8c8 : e_M[373]? = some r_Jxc12de_init_da8c8 := by rfl
theorem rC_Jxc12de_init_da8c8 : e_tb 180 = some (Cond.code yJxc12de_init_da8c8 cJxc12de_init_da8c8 1 (none)) := by decide +kernel
theorem m_Jxc12de_init_da8c8 {X : e_XT} {d : Nat} {args : List Value} {S : e_SS} {Q : e_Rt → e_SS → Prop} (hlen : (e_slx args).length ≤ 1) (j : s_w X d K_Jxc12de_init_da8c8 0 (e_ent0 args 1) [] S (fun r S' => e_rcr (none) r = true ∧ Q r S')) : s_c X d 373 args S Q := c_of rM_Jxc12de_init_da8c8 rC_Jxc12de_init_da8c8 rfl (fun _ => by rfl) hlen j
abbrev r_Jxa1e45_init_da8c8 : e_MT := ((yJxa1e45_init_da8c8, 23), (0, false), (183, 182, 86, 9999))
abbrev K_Jxa1e45_init_da8c8 : e_KT := (23, true, cJxa1e45_init_da8c8, 1, [])
theorem rM_Jxa1e45_init_da8c8 : e_M[374]? = some r_Jxa1e45_init_da8c8 := by rfl
theorem rC_Jxa1e45_init_da8c8 : e_tb 183 = some (Cond.code yJxa1e45_init_da8c8 cJxa1e45_init_da8c8 1 (none)) := by decide +kernel
theorem m_Jxa1e45_init_da8c8 {X : e_XT} {d : Nat} {args : List Value} {S : e_SS} {Q : e_Rt → e_SS → Prop} (hlen : (e_slx args).length ≤ 1) (j : s_w X d K_Jxa1e45_init_da8c8 0 (e_ent0 args 1) [] S (fun r S' => e_rcr (none) r = true ∧ Q r S')) : s_c X d 374 args S Q := c_of rM_Jxa1e45_init_da8c8 rC_Jxa1e45_init_da8c8 rfl (fun _ => by rfl) hlen j
abbrev r_J7_fill_53178 : e_MT := ((yJ7_fill_53178, 25), (2, true), (147, 146, 84, 9999))
abbrev K_J7_fill_53178 : e_KT := (25, false, cJ7_fill_53178, 4, [])
theorem rM_J7_fill_53178 : e_M[375]? = some r_J7_fill_53178 := by rfl
theorem rC_J7_fill_53178 : e_tb 147 = some (Cond.code yJ7_fill_53178 cJ7_fill_53178 4 (none)) := by decide +kernel
theorem m_J7_fill_53178 {X : e_XT} {d : Nat} {args : List Value} {S : e_SS} {Q : e_Rt → e_SS → Prop} (hlen : (e_slx args).length ≤ 4) (j : s_w X d K_J7_fill_53178 0 (e_ent0 args 4) [] S (fun r S' => e_rcr (none) r = true ∧ Q r S')) : s_c X d 375 args S Q := c_of rM_J7_fill_53178 rC_J7_fill_53178 rfl (fun _ => by contradiction) hlen j
abbrev r_J7_copyOf_1904c : e_MT := ((yJ7_copyOf_1904c, 25), (2, true), (296, 295, 84, 9999))
abbrev K_J7_copyOf_1904c : e_KT := (25, false, cJ7_copyOf_1904c, 2, [])
theorem rM_J7_copyOf_1904c : e_M[376]? = some r_J7_copyOf_1904c := by rfl
theorem rC_J7_copyOf_1904c : e_tb 296 = some (Cond.code yJ7_copyOf_1904c cJ7_copyOf_1904c 2 (some (FieldType.array (FieldType.object "java/lang/Object")))) := by decide +kernel
theorem m_J7_copyOf_1904c {X : e_XT} {d : Nat} {args : List Value} {S : e_SS} {Q : e_Rt → e_SS → Prop} (hlen : (e_slx args).length ≤ 2) (j : s_w X d K_J7_copyOf_1904c 0 (e_ent0 args 2) [] S (fun r S' => e_rcr (some (FieldType.array (FieldType.object "java/lang/Object"))) r = true ∧ Q r S')) : s_c X d 376 args S Q := c_of rM_J7_copyOf_1904c rC_J7_copyOf_1904c rfl (fun _ => by contradiction) hlen j
abbrev r_J7_copyOf_6403c : e_MT := ((yJ7_copyOf_6403c, 25), (3, true), (330, 329, 84, 9999))
abbrev K_J7_copyOf_6403c : e_KT := (25, false, cJ7_copyOf_6403c, 4, [])
theorem rM_J7_copyOf_6403c : e_M[377]? = some r_J7_copyOf_6403c := by rfl
theorem rC_J7_copyOf_6403c : e_tb 330 = some (Cond.code yJ7_copyOf_6403c cJ7_copyOf_6403c 4 (some (FieldType.array (FieldType.object "java/lang/Object")))) := by decide +kernel
theorem m_J7_copyOf_6403c {X : e_XT} {d : Nat} {args : List Value} {S : e_SS} {Q : e_Rt → e_SS → Prop} (hlen : (e_slx args).length ≤ 4) (j : s_w X d K_J7_copyOf_6403c 0 (e_ent0 args 4) [] S (fun r S' => e_rcr (some (FieldType.array (FieldType.object "java/lang/Object"))) r = true ∧ Q r S')) : s_c X d 377 args S Q := c_of rM_J7_copyOf_6403c rC_J7_copyOf_6403c rfl (fun _ => by contradiction) hlen j
abbrev r_J7_copyOf_59c91 : e_MT := ((yJ7_copyOf_59c91, 25), (2, true), (704, 703, 84, 9999))
abbrev K_J7_copyOf_59c91 : e_KT := (25, false, cJ7_copyOf_59c91, 3, [])
theorem rM_J7_copyOf_59c91 : e_M[378]? = some r_J7_copyOf_59c91 := by rfl
theorem rC_J7_copyOf_59c91 : e_tb 704 = some (Cond.code yJ7_copyOf_59c91 cJ7_copyOf_59c91 3 (some (FieldType.array FieldType.int))) := by decide +kernel
theorem m_J7_copyOf_59c91 {X : e_XT} {d : Nat} {args : List Value} {S : e_SS} {Q : e_Rt → e_SS → Prop} (hlen : (e_slx args).length ≤ 3) (j : s_w X d K_J7_copyOf_59c91 0 (e_ent0 args 3) [] S (fun r S' => e_rcr (some (FieldType.array FieldType.int)) r = true ∧ Q r S')) : s_c X d 378 args S Q := c_of rM_J7_copyOf_59c91 rC_J7_copyOf_59c91 rfl (fun _ => by contradiction) hlen j
abbrev r_J7_copyOf_9075b : e_MT := ((yJ7_copyOf_9075b, 25), (2, true), (2556, 2555, 84, 9999))
abbrev K_J7_copyOf_9075b : e_KT := (25, false, cJ7_copyOf_9075b, 3, [])
theorem rM_J7_copyOf_9075b : e_M[379]? = some r_J7_copyOf_9075b := by rfl
theorem rC_J7_copyOf_9075b : e_tb 2556 = some (Cond.code yJ7_copyOf_9075b cJ7_copyOf_9075b 3 (some (FieldType.array FieldType.byte))) := by decide +kernel
theorem m_J7_copyOf_9075b {X : e_XT} {d : Nat} {args : List Value} {S : e_SS} {Q : e_Rt → e_SS → Prop} (hlen : (e_slx args).length ≤ 3) (j : s_w X d K_J7_copyOf_9075b 0 (e_ent0 args 3) [] S (fun r S' => e_rcr (some (FieldType.array FieldType.byte)) r = true ∧ Q r S')) : s_c X d 379 args S Q := c_of rM_J7_copyOf_9075b rC_J7_copyOf_9075b rfl (fun _ => by contradiction) hlen j
abbrev r_J7_copyOfRange_39247 : e_MT := ((yJ7_copyOfRange_39247, 25), (3, true), (2690, 2689, 84, 9999))
abbrev K_J7_copyOfRange_39247 : e_KT := (25, false, cJ7_copyOfRange_39247, 3, [])
theorem rM_J7_copyOfRange_39247 : e_M[380]? = some r_J7_copyOfRange_39247 := by rfl
theorem rC_J7_copyOfRange_39247 : e_tb 2690 = some (Cond.code yJ7_copyOfRange_39247 cJ7_copyOfRange_39247 3 (some (FieldType.array FieldType.byte))) := by decide +kernel
theorem m_J7_copyOfRange_39247 {X : e_XT} {d : Nat} {args : List Value} {S : e_SS} {Q : e_Rt → e_SS → Prop} (hlen : (e_slx args).length ≤ 3) (j : s_w X d K_J7_copyOfRange_39247 0 (e_ent0 args 3) [] S (fun r S' => e_rcr (some (FieldType.array FieldType.byte)) r = true ∧ Q r S')) : s_c X d 380 args S Q := c_of rM_J7_copyOfRange_39247 rC_J7_copyOfRange_39247 rfl (fun _ => by contradiction) hlen j
abbrev r_J7_copyOfRangeByte_39247 : e_MT := ((yJ7_copyOfRangeByte_39247, 25), (3, true), (2693, 2692, 84, 9999))
abbrev K_J7_copyOfRangeByte_39247 : e_KT := (25, false, cJ7_copyOfRangeByte_39247, 5, [])
theorem rM_J7_copyOfRangeByte_39247 : e_M[381]? = some r_J7_copyOfRangeByte_39247 := by rfl
theorem rC_J7_copyOfRangeByte_39247 : e_tb 2693 = some (Cond.code yJ7_copyOfRangeByte_39247 cJ7_copyOfRangeByte_39247 5 (some (FieldType.array FieldType.byte))) := by decide +kernel
theorem m_J7_copyOfRangeByte_39247 {X : e_XT} {d : Nat} {args : List Value} {S : e_SS} {Q : e_Rt → e_SS → Prop} (hlen : (e_slx args).length ≤ 5) (j : s_w X d K_J7_copyOfRangeByte_39247 0 (e_ent0 args 5) [] S (fun r S' => e_rcr (some (FieldType.array FieldType.byte)) r = true ∧ Q r S')) : s_c X d 381 args S Q := c_of rM_J7_copyOfRangeByte_39247 rC_J7_copyOfRangeByte_39247 rfl (fun _ => by contradiction) hlen j
abbrev r_J7_checkLength_df160 : e_MT := ((yJ7_checkLength_df160, 25), (2, true), (2696, 2695, 84, 9999))
abbrev K_J7_checkLength_df160 : e_KT := (25, false, cJ7_checkLength_df160, 2, [])
theorem rM_J7_checkLength_df160 : e_M[382]? = some r_J7_checkLength_df160 := by rfl
theorem rC_J7_checkLength_df160 : e_tb 2696 = some (Cond.code yJ7_checkLength_df160 cJ7_checkLength_df160 2 (none)) := by decide +kernel
theorem m_J7_checkLength_df160 {X : e_XT} {d : Nat} {args : List Value} {S : e_SS} {Q : e_Rt → e_SS → Prop} (hlen : (e_slx args).length ≤ 2) (j : s_w X d K_J7_checkLength_df160 0 (e_ent0 args 2) [] S (fun r S' => e_rcr (none) r = true ∧ Q r S')) : s_c X d 382 args S Q := c_of rM_J7_checkLength_df160 rC_J7_checkLength_df160 rfl (fun _ => by contradiction) hlen j
abbrev r_J15_checkIndex_7cf53 : e_MT := ((yJ15_checkIndex_7cf53, 26), (2, true), (592, 591, 107, 9999))
abbrev K_J15_checkIndex_7cf53 : e_KT := (26, false, cJ15_checkIndex_7cf53, 2, [])
theorem rM_J15_checkIndex_7cf53 : e_M[383]? = some r_J15_checkIndex_7cf53 := by rfl
theorem rC_J15_checkIndex_7cf53 : e_tb 592 = some (Cond.code yJ15_checkIndex_7cf53 cJ15_checkIndex_7cf53 2 (some FieldType.int)) := by decide +kernel
theorem m_J15_checkIndex_7cf53 {X : e_XT} {d : Nat} {args : List Value} {S : e_SS} {Q : e_Rt → e_SS → Prop} (hlen : (e_slx args).length ≤ 2) (j : s_w X d K_J15_checkIndex_7cf53 0 (e_ent0 args 2) [] S (fun r S' => e_rcr (some FieldType.int) r = true ∧ Q r S')) : s_c X d 383 args S Q := c_of rM_J15_checkIndex_7cf53 rC_J15_checkIndex_7cf53 rfl (fun _ => by contradiction) hlen j
abbrev r_J3_checkIndex_8e157 : e_MT := ((yJ3_checkIndex_8e157, 27), (3, true), (595, 594, 108, 9999))
abbrev K_J3_checkIndex_8e157 : e_KT := (27, false, cJ3_checkIndex_8e157, 3, [])
theorem rM_J3_checkIndex_8e157 : e_M[384]? = some r_J3_checkIndex_8e157 := by rfl
theorem rC_J3_checkIndex_8e157 : e_tb 595 = some (Cond.code yJ3_checkIndex_8e157 cJ3_checkIndex_8e157 3 (some FieldType.int)) := by decide +kernel
theorem m_J3_checkIndex_8e157 {X : e_XT} {d : Nat} {args : List Value} {S : e_SS} {Q : e_Rt → e_SS → Prop} (hlen : (e_slx args).length ≤ 3) (j : s_w X d K_J3_checkIndex_8e157 0 (e_ent0 args 3) [] S (fun r S' => e_rcr (some FieldType.int) r = true ∧ Q r S')) : s_c X d 384 args S Q := c_of rM_J3_checkIndex_8e157 rC_J3_checkIndex_8e157 rfl (fun _ => by contradiction) hlen j
abbrev r_J3_checkFromToIndex_8c36e : e_MT := ((yJ3_checkFromToIndex_8c36e, 27), (4, true), (2583, 2582, 108, 9999))
abbrev K_J3_checkFromToIndex_8c36e : e_KT := (27, false, cJ3_checkFromToIndex_8c36e, 4, [])
theorem rM_J3_checkFromToIndex_8c36e : e_M[385]? = some r_J3_checkFromToIndex_8c36e := by rfl
theorem rC_J3_checkFromToIndex_8c36e : e_tb 2583 = some (Cond.code yJ3_checkFromToIndex_8c36e cJ3_checkFromToIndex_8c36e 4 (some FieldType.int)) := by decide +kernel
theorem m_J3_checkFromToIndex_8c36e {X : e_XT} {d : Nat} {args : List Value} {S : e_SS} {Q : e_Rt → e_SS → Prop} (hlen : (e_slx args).length ≤ 4) (j : s_w X d K_J3_checkFromToIndex_8c36e 0 (e_ent0 args 4) [] S (fun r S' => e_rcr (some FieldType.int) r = true ∧ Q r S')) : s_c X d 385 args S Q := c_of rM_J3_checkFromToIndex_8c36e rC_J3_checkFromToIndex_8c36e rfl (fun _ => by contradiction) hlen j
abbrev r_J3_checkFromIndexSize_8c36e : e_MT := ((yJ3_checkFromIndexSize_8c36e, 27), (4, true), (2629, 2628, 108, 9999))
abbrev K_J3_checkFromIndexSize_8c36e : e_KT := (27, false, cJ3_checkFromIndexSize_8c36e, 4, [])
theorem rM_J3_checkFromIndexSize_8c36e : e_M[386]? = some r_J3_checkFromIndexSize_8c36e := by rfl
theorem rC_J3_checkFromIndexSize_8c36e : e_tb 2629 = some (Cond.code yJ3_checkFromIndexSize_8c36e cJ3_checkFromIndexSize_8c36e 4 (some FieldType.int)) := by decide +kernel
theorem m_J3_checkFromIndexSize_8c36e {X : e_XT} {d : Nat} {args : List Value} {S : e_SS} {Q : e_Rt → e_SS → Prop} (hlen : (e_slx args).length ≤ 4) (j : s_w X d K_J3_checkFromIndexSize_8c36e 0 (e_ent0 args 4) [] S (fun r S' => e_rcr (some FieldType.int) r = true ∧ Q r S')) : s_c X d 386 args S Q := c_of rM_J3_checkFromIndexSize_8c36e rC_J3_checkFromIndexSize_8c36e rfl (fun _ => by contradiction) hlen j
abbrev r_J8_newLength_cabcc : e_MT := ((yJ8_newLength_cabcc, 28), (3, true), (286, 285, 91, 9999))
abbrev K_J8_newLength_cabcc : e_KT := (28, false, cJ8_newLength_cabcc, 4, [])
theorem rM_J8_newLength_cabcc : e_M[387]? = some r_J8_newLength_cabcc := by rfl
theorem rC_J8_newLength_cabcc : e_tb 286 = some (Cond.code yJ8_newLength_cabcc cJ8_newLength_cabcc 4 (some FieldType.int)) := by decide +kernel
theorem m_J8_newLength_cabcc {X : e_XT} {d : Nat} {args : List Value} {S : e_SS} {Q : e_Rt → e_SS → Prop} (hlen : (e_slx args).length ≤ 4) (j : s_w X d K_J8_newLength_cabcc 0 (e_ent0 args 4) [] S (fun r S' => e_rcr (some FieldType.int) r = true ∧ Q r S')) : s_c X d 387 args S Q := c_of rM_J8_newLength_cabcc rC_J8_newLength_cabcc rfl (fun _ => by contradiction) hlen j
abbrev r_J8_hugeLength_7cf53 : e_MT := ((yJ8_hugeLength_7cf53, 28), (2, true), (293, 292, 91, 9999))
abbrev K_J8_hugeLength_7cf53 : e_KT := (28, false, cJ8_hugeLength_7cf53, 3, [])
theorem rM_J8_hugeLength_7cf53 : e_M[388]? = some r_J8_hugeLength_7cf53 := by rfl
theorem rC_J8_hugeLength_7cf53 : e_tb 293 = some (Cond.code yJ8_hugeLength_7cf53 cJ8_hugeLength_7cf53 3 (some FieldType.int)) := by decide +kernel
theorem m_J8_hugeLength_7cf53 {X : e_XT} {d : Nat} {args : List Value} {S : e_SS} {Q : e_Rt → e_SS → Prop} (hlen : (e_slx args).length ≤ 3) (j : s_w X d K_J8_hugeLength_7cf53 0 (e_ent0 args 3) [] S (fun r S' => e_rcr (some FieldType.int) r = true ∧ Q r S')) : s_c X d 388 args S Q := c_of rM_J8_hugeLength_7cf53 rC_J8_hugeLength_7cf53 rfl (fun _ => by contradiction) hlen j
abbrev r_J13_bitCount_95d88 : e_MT := ((yJ13_bitCount_95d88, 29), (1, true), (1506, 1505, 117, 9999))
abbrev K_J13_bitCount_95d88 : e_KT := (29, false, cJ13_bitCount_95d88, 2, [])
theorem rM_J13_bitCount_95d88 : e_M[389]? = some r_J13_bitCount_95d88 := by rfl
theorem rC_J13_bitCount_95d88 : e_tb 1506 = some (Cond.code yJ13_bitCount_95d88 cJ13_bitCount_95d88 2 (some FieldType.int)) := by decide +kernel
theorem m_J13_bitCount_95d88 {X : e_XT} {d : Nat} {args : List Value} {S : e_SS} {Q : e_Rt → e_SS → Prop} (hlen : (e_slx args).length ≤ 2) (j : s_w X d K_J13_bitCount_95d88 0 (e_ent0 args 2) [] S (fun r S' => e_rcr (some FieldType.int) r = true ∧ Q r S')) : s_c X d 389 args S Q := c_of rM_J13_bitCount_95d88 rC_J13_bitCount_95d88 rfl (fun _ => by contradiction) hlen j
abbrev r_J9_max_7cf53 : e_MT := ((yJ9_max_7cf53, 30), (2, true), (289, 288, 92, 9999))
abbrev K_J9_max_7cf53 : e_KT := (30, false, cJ9_max_7cf53, 2, [])
theorem rM_J9_max_7cf53 : e_M[390]? = some r_J9_max_7cf53 := by rfl
theorem rC_J9_max_7cf53 : e_tb 289 = some (Cond.code yJ9_max_7cf53 cJ9_max_7cf53 2 (some FieldType.int)) := by decide +kernel
theorem m_J9_max_7cf53 {X : e_XT} {d : Nat} {args : List Value} {S : e_SS} {Q : e_Rt → e_SS → Prop} (hlen : (e_slx args).length ≤ 2) (j : s_w X d K_J9_max_7cf53 0 (e_ent0 args 2) [] S (fun r S' => e_rcr (some FieldType.int) r = true ∧ Q r S')) : s_c X d 390 args S Q := c_of rM_J9_max_7cf53 rC_J9_max_7cf53 rfl (fun _ => by contradiction) hlen j
abbrev r_J9_min_7cf53 : e_MT := ((yJ9_min_7cf53, 30), (2, true), (336, 335, 92, 9999))
abbrev K_J9_min_7cf53 : e_KT := (30, false, cJ9_min_7cf53, 2, [])
theorem rM_J9_min_7cf53 : e_M[391]? = some r_J9_min_7cf53 := by rfl
theorem rC_J9_min_7cf53 : e_tb 336 = some (Cond.code yJ9_min_7cf53 cJ9_min_7cf53 2 (some FieldType.int)) := by decide +kernel
theorem m_J9_min_7cf53 {X : e_XT} {d : Nat} {args : List Value} {S : e_SS} {Q : e_Rt → e_SS → Prop} (hlen : (e_slx args).length ≤ 2) (j : s_w X d K_J9_min_7cf53 0 (e_ent0 args 2) [] S (fun r S' => e_rcr (some FieldType.int) r = true ∧ Q r S')) : s_c X d 391 args S Q := c_of rM_J9_min_7cf53 rC_J9_min_7cf53 rfl (fun _ => by contradiction) hlen j
abbrev r_J9_abs_0f7a4 : e_MT := ((yJ9_abs_0f7a4, 30), (1, true), (1768, 1767, 92, 9999))
abbrev K_J9_abs_0f7a4 : e_KT := (30, false, cJ9_abs_0f7a4, 1, [])
theorem rM_J9_abs_0f7a4 : e_M[392]? = some r_J9_abs_0f7a4 := by rfl
theorem rC_J9_abs_0f7a4 : e_tb 1768 = some (Cond.code yJ9_abs_0f7a4 cJ9_abs_0f7a4 1 (some FieldType.int)) := by decide +kernel
theorem m_J9_abs_0f7a4 {X : e_XT} {d : Nat} {args : List Value} {S : e_SS} {Q : e_Rt → e_SS → Prop} (hlen : (e_slx args).length ≤ 1) (j : s_w X d K_J9_abs_0f7a4 0 (e_ent0 args 1) [] S (fun r S' => e_rcr (some FieldType.int) r = true ∧ Q r S')) : s_c X d 392 args S Q := c_of rM_J9_abs_0f7a4 rC_J9_abs_0f7a4 rfl (fun _ => by contradiction) hlen j
