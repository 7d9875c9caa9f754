/-! 29b: the rows of the methods, their code, the door from a body to its contract (printed by wip/whole/walk.py) -/
abbrev r_Jx4a65c_init_da8c8 : e_MT := ((yJx4a65c_init_da8c8, 3), (0, false), (122, 121, 42, 9999))
abbrev K_Jx4a65c_init_da8c8 : e_KT := (3, true, cJx4a65c_init_da8c8, 1, [])
theorem rM_Jx4a65c_init_da8c8 : e_M[0]? = some r_Jx4a65c_init_da8c8 := by rfl
theorem rC_Jx4a65c_init_da8c8 : e_tb 122 = some (Cond.code yJx4a65c_init_da8c8 cJx4a65c_init_da8c8 1 (none)) := by decide +kernel
theorem m_Jx4a65c_init_da8c8 {X : e_XT} {d : Nat} {args : List Value} {S : e_SS} {Q : e_Rt → e_SS → Prop} (hlen : (e_slx args).length ≤ 1) (j : s_w X d K_Jx4a65c_init_da8c8 0 (e_ent0 args 1) [] S (fun r S' => e_rcr (none) r = true ∧ Q r S')) : s_c X d 0 args S Q := c_of rM_Jx4a65c_init_da8c8 rC_Jx4a65c_init_da8c8 rfl (fun _ => by rfl) hlen j
abbrev r_Jx4a65c_add_9ea2d : e_MT := ((yJx4a65c_add_9ea2d, 3), (1, false), (216, 214, 42, 215))
abbrev K_Jx4a65c_add_9ea2d : e_KT := (3, false, cJx4a65c_add_9ea2d, 2, [])
theorem rM_Jx4a65c_add_9ea2d : e_M[1]? = some r_Jx4a65c_add_9ea2d := by rfl
theorem rC_Jx4a65c_add_9ea2d : e_tb 216 = some (Cond.code yJx4a65c_add_9ea2d cJx4a65c_add_9ea2d 2 (some FieldType.boolean)) := by decide +kernel
theorem m_Jx4a65c_add_9ea2d {X : e_XT} {d : Nat} {args : List Value} {S : e_SS} {Q : e_Rt → e_SS → Prop} (hlen : (e_slx args).length ≤ 2) (j : s_w X d K_Jx4a65c_add_9ea2d 0 (e_ent0 args 2) [] S (fun r S' => e_rcr (some FieldType.boolean) r = true ∧ Q r S')) : s_c X d 1 args S Q := c_of rM_Jx4a65c_add_9ea2d rC_Jx4a65c_add_9ea2d rfl (fun _ => by contradiction) hlen j
abbrev r_Jx4a65c_add_72be8 : e_MT := ((yJx4a65c_add_72be8, 3), (3, false), (220, 219, 42, 0))
abbrev K_Jx4a65c_add_72be8 : e_KT := (3, false, cJx4a65c_add_72be8, 4, [])
theorem rM_Jx4a65c_add_72be8 : e_M[2]? = some r_Jx4a65c_add_72be8 := by rfl
theorem rC_Jx4a65c_add_72be8 : e_tb 220 = some (Cond.code yJx4a65c_add_72be8 cJx4a65c_add_72be8 4 (none)) := by decide +kernel
theorem m_Jx4a65c_add_72be8 {X : e_XT} {d : Nat} {args : List Value} {S : e_SS} {Q : e_Rt → e_SS → Prop} (hlen : (e_slx args).length ≤ 4) (j : s_w X d K_Jx4a65c_add_72be8 0 (e_ent0 args 4) [] S (fun r S' => e_rcr (none) r = true ∧ Q r S')) : s_c X d 2 args S Q := c_of rM_Jx4a65c_add_72be8 rC_Jx4a65c_add_72be8 rfl (fun _ => by contradiction) hlen j
abbrev r_Jx4a65c_grow_d5877 : e_MT := ((yJx4a65c_grow_d5877, 3), (0, false), (224, 223, 42, 1))
abbrev K_Jx4a65c_grow_d5877 : e_KT := (3, false, cJx4a65c_grow_d5877, 1, [])
theorem rM_Jx4a65c_grow_d5877 : e_M[3]? = some r_Jx4a65c_grow_d5877 := by rfl
theorem rC_Jx4a65c_grow_d5877 : e_tb 224 = some (Cond.code yJx4a65c_grow_d5877 cJx4a65c_grow_d5877 1 (some (FieldType.array (FieldType.object "java/lang/Object")))) := by decide +kernel
theorem m_Jx4a65c_grow_d5877 {X : e_XT} {d : Nat} {args : List Value} {S : e_SS} {Q : e_Rt → e_SS → Prop} (hlen : (e_slx args).length ≤ 1) (j : s_w X d K_Jx4a65c_grow_d5877 0 (e_ent0 args 1) [] S (fun r S' => e_rcr (some (FieldType.array (FieldType.object "java/lang/Object"))) r = true ∧ Q r S')) : s_c X d 3 args S Q := c_of rM_Jx4a65c_grow_d5877 rC_Jx4a65c_grow_d5877 rfl (fun _ => by contradiction) hlen j
abbrev r_Jx4a65c_grow_92f84 : e_MT := ((yJx4a65c_grow_92f84, 3), (1, false), (228, 227, 42, 2))
abbrev K_Jx4a65c_grow_92f84 : e_KT := (3, false, cJx4a65c_grow_92f84, 4, [])
theorem rM_Jx4a65c_grow_92f84 : e_M[4]? = some r_Jx4a65c_grow_92f84 := by rfl
theorem rC_Jx4a65c_grow_92f84 : e_tb 228 = some (Cond.code yJx4a65c_grow_92f84 cJx4a65c_grow_92f84 4 (some (FieldType.array (FieldType.object "java/lang/Object")))) := by decide +kernel
theorem m_Jx4a65c_grow_92f84 {X : e_XT} {d : Nat} {args : List Value} {S : e_SS} {Q : e_Rt → e_SS → Prop} (hlen : (e_slx args).length ≤ 4) (j : s_w X d K_Jx4a65c_grow_92f84 0 (e_ent0 args 4) [] S (fun r S' => e_rcr (some (FieldType.array (FieldType.object "java/lang/Object"))) r = true ∧ Q r S')) : s_c X d 4 args S Q := c_of rM_Jx4a65c_grow_92f84 rC_Jx4a65c_grow_92f84 rfl (fun _ => by contradiction) hlen j
abbrev r_Jx4a65c_size_8abf5 : e_MT := ((yJx4a65c_size_8abf5, 3), (0, false), (497, 495, 42, 496))
abbrev K_Jx4a65c_size_8abf5 : e_KT := (3, false, cJx4a65c_size_8abf5, 1, [])
theorem rM_Jx4a65c_size_8abf5 : e_M[5]? = some r_Jx4a65c_size_8abf5 := by rfl
theorem rC_Jx4a65c_size_8abf5 : e_tb 497 = some (Cond.code yJx4a65c_size_8abf5 cJx4a65c_size_8abf5 1 (some FieldType.int)) := by decide +kernel
theorem m_Jx4a65c_size_8abf5 {X : e_XT} {d : Nat} {args : List Value} {S : e_SS} {Q : e_Rt → e_SS → Prop} (hlen : (e_slx args).length ≤ 1) (j : s_w X d K_Jx4a65c_size_8abf5 0 (e_ent0 args 1) [] S (fun r S' => e_rcr (some FieldType.int) r = true ∧ Q r S')) : s_c X d 5 args S Q := c_of rM_Jx4a65c_size_8abf5 rC_Jx4a65c_size_8abf5 rfl (fun _ => by contradiction) hlen j
abbrev r_Jx4a65c_get_915e3 : e_MT := ((yJx4a65c_get_915e3, 3), (1, false), (501, 499, 42, 500))
abbrev K_Jx4a65c_get_915e3 : e_KT := (3, false, cJx4a65c_get_915e3, 2, [])
theorem rM_Jx4a65c_get_915e3 : e_M[6]? = some r_Jx4a65c_get_915e3 := by rfl
theorem rC_Jx4a65c_get_915e3 : e_tb 501 = some (Cond.code yJx4a65c_get_915e3 cJx4a65c_get_915e3 2 (some (FieldType.object "java/lang/Object"))) := by decide +kernel
theorem m_Jx4a65c_get_915e3 {X : e_XT} {d : Nat} {args : List Value} {S : e_SS} {Q : e_Rt → e_SS → Prop} (hlen : (e_slx args).length ≤ 2) (j : s_w X d K_Jx4a65c_get_915e3 0 (e_ent0 args 2) [] S (fun r S' => e_rcr (some (FieldType.object "java/lang/Object")) r = true ∧ Q r S')) : s_c X d 6 args S Q := c_of rM_Jx4a65c_get_915e3 rC_Jx4a65c_get_915e3 rfl (fun _ => by contradiction) hlen j
abbrev r_Jx4a65c_elementData_915e3 : e_MT := ((yJx4a65c_elementData_915e3, 3), (1, false), (511, 509, 42, 510))
abbrev K_Jx4a65c_elementData_915e3 : e_KT := (3, false, cJx4a65c_elementData_915e3, 2, [])
theorem rM_Jx4a65c_elementData_915e3 : e_M[7]? = some r_Jx4a65c_elementData_915e3 := by rfl
theorem rC_Jx4a65c_elementData_915e3 : e_tb 511 = some (Cond.code yJx4a65c_elementData_915e3 cJx4a65c_elementData_915e3 2 (some (FieldType.object "java/lang/Object"))) := by decide +kernel
theorem m_Jx4a65c_elementData_915e3 {X : e_XT} {d : Nat} {args : List Value} {S : e_SS} {Q : e_Rt → e_SS → Prop} (hlen : (e_slx args).length ≤ 2) (j : s_w X d K_Jx4a65c_elementData_915e3 0 (e_ent0 args 2) [] S (fun r S' => e_rcr (some (FieldType.object "java/lang/Object")) r = true ∧ Q r S')) : s_c X d 7 args S Q := c_of rM_Jx4a65c_elementData_915e3 rC_Jx4a65c_elementData_915e3 rfl (fun _ => by contradiction) hlen j
abbrev r_X0_init : e_MT := ((yX0_init, 4), (0, false), (116, 115, 39, 9999))
abbrev K_X0_init : e_KT := (4, true, cX0_init, 2, [])
theorem rM_X0_init : e_M[15]? = some r_X0_init := by rfl
theorem rC_X0_init : e_tb 116 = some (Cond.code yX0_init cX0_init 2 (none)) := by decide +kernel
theorem m_X0_init {X : e_XT} {d : Nat} {args : List Value} {S : e_SS} {Q : e_Rt → e_SS → Prop} (hlen : (e_slx args).length ≤ 2) (j : s_w X d K_X0_init 0 (e_ent0 args 2) [] S (fun r S' => e_rcr (none) r = true ∧ Q r S')) : s_c X d 15 args S Q := c_of rM_X0_init rC_X0_init rfl (fun _ => by rfl) hlen j
abbrev r_X0_findRelays : e_MT := ((yX0_findRelays, 4), (1, false), (796, 794, 39, 795))
abbrev K_X0_findRelays : e_KT := (4, false, cX0_findRelays, 5, [])
theorem rM_X0_findRelays : e_M[16]? = some r_X0_findRelays := by rfl
theorem rC_X0_findRelays : e_tb 796 = some (Cond.code yX0_findRelays cX0_findRelays 5 (none)) := by decide +kernel
theorem m_X0_findRelays {X : e_XT} {d : Nat} {args : List Value} {S : e_SS} {Q : e_Rt → e_SS → Prop} (hlen : (e_slx args).length ≤ 5) (j : s_w X d K_X0_findRelays 0 (e_ent0 args 5) [] S (fun r S' => e_rcr (none) r = true ∧ Q r S')) : s_c X d 16 args S Q := c_of rM_X0_findRelays rC_X0_findRelays rfl (fun _ => by contradiction) hlen j
abbrev r_X0_isSourceOn : e_MT := ((yX0_isSourceOn, 4), (2, false), (800, 799, 39, 5))
abbrev K_X0_isSourceOn : e_KT := (4, false, cX0_isSourceOn, 4, [])
theorem rM_X0_isSourceOn : e_M[17]? = some r_X0_isSourceOn := by rfl
theorem rC_X0_isSourceOn : e_tb 800 = some (Cond.code yX0_isSourceOn cX0_isSourceOn 4 (some FieldType.boolean)) := by decide +kernel
theorem m_X0_isSourceOn {X : e_XT} {d : Nat} {args : List Value} {S : e_SS} {Q : e_Rt → e_SS → Prop} (hlen : (e_slx args).length ≤ 4) (j : s_w X d K_X0_isSourceOn 0 (e_ent0 args 4) [] S (fun r S' => e_rcr (some FieldType.boolean) r = true ∧ Q r S')) : s_c X d 17 args S Q := c_of rM_X0_isSourceOn rC_X0_isSourceOn rfl (fun _ => by contradiction) hlen j
abbrev r_X0_isRelayOn : e_MT := ((yX0_isRelayOn, 4), (1, false), (804, 802, 39, 803))
abbrev K_X0_isRelayOn : e_KT := (4, false, cX0_isRelayOn, 2, [])
theorem rM_X0_isRelayOn : e_M[18]? = some r_X0_isRelayOn := by rfl
theorem rC_X0_isRelayOn : e_tb 804 = some (Cond.code yX0_isRelayOn cX0_isRelayOn 2 (some FieldType.boolean)) := by decide +kernel
theorem m_X0_isRelayOn {X : e_XT} {d : Nat} {args : List Value} {S : e_SS} {Q : e_Rt → e_SS → Prop} (hlen : (e_slx args).length ≤ 2) (j : s_w X d K_X0_isRelayOn 0 (e_ent0 args 2) [] S (fun r S' => e_rcr (some FieldType.boolean) r = true ∧ Q r S')) : s_c X d 18 args S Q := c_of rM_X0_isRelayOn rC_X0_isRelayOn rfl (fun _ => by contradiction) hlen j
abbrev r_X0_knobAt : e_MT := ((yX0_knobAt, 4), (1, false), (809, 807, 39, 808))
abbrev K_X0_knobAt : e_KT := (4, false, cX0_knobAt, 2, [])
theorem rM_X0_knobAt : e_M[19]? = some r_X0_knobAt := by rfl
theorem rC_X0_knobAt : e_tb 809 = some (Cond.code yX0_knobAt cX0_knobAt 2 (some (FieldType.object "Rankhall$Knob"))) := by decide +kernel
theorem m_X0_knobAt {X : e_XT} {d : Nat} {args : List Value} {S : e_SS} {Q : e_Rt → e_SS → Prop} (hlen : (e_slx args).length ≤ 2) (j : s_w X d K_X0_knobAt 0 (e_ent0 args 2) [] S (fun r S' => e_rcr (some (FieldType.object "Rankhall$Knob")) r = true ∧ Q r S')) : s_c X d 19 args S Q := c_of rM_X0_knobAt rC_X0_knobAt rfl (fun _ => by contradiction) hlen j
abbrev r_X0_combines : e_MT := ((yX0_combines, 4), (3, true), (812, 811, 39, 9999))
abbrev K_X0_combines : e_KT := (4, false, cX0_combines, 3, [])
theorem rM_X0_combines : e_M[20]? = some r_X0_combines := by rfl
theorem rC_X0_combines : e_tb 812 = some (Cond.code yX0_combines cX0_combines 3 (some FieldType.boolean)) := by decide +kernel
theorem m_X0_combines {X : e_XT} {d : Nat} {args : List Value} {S : e_SS} {Q : e_Rt → e_SS → Prop} (hlen : (e_slx args).length ≤ 3) (j : s_w X d K_X0_combines 0 (e_ent0 args 3) [] S (fun r S' => e_rcr (some FieldType.boolean) r = true ∧ Q r S')) : s_c X d 20 args S Q := c_of rM_X0_combines rC_X0_combines rfl (fun _ => by contradiction) hlen j
abbrev r_X0_isWay : e_MT := ((yX0_isWay, 4), (1, false), (563, 561, 39, 562))
abbrev K_X0_isWay : e_KT := (4, false, cX0_isWay, 2, [])
theorem rM_X0_isWay : e_M[21]? = some r_X0_isWay := by rfl
theorem rC_X0_isWay : e_tb 563 = some (Cond.code yX0_isWay cX0_isWay 2 (some FieldType.boolean)) := by decide +kernel
theorem m_X0_isWay {X : e_XT} {d : Nat} {args : List Value} {S : e_SS} {Q : e_Rt → e_SS → Prop} (hlen : (e_slx args).length ≤ 2) (j : s_w X d K_X0_isWay 0 (e_ent0 args 2) [] S (fun r S' => e_rcr (some FieldType.boolean) r = true ∧ Q r S')) : s_c X d 21 args S Q := c_of rM_X0_isWay rC_X0_isWay rfl (fun _ => by contradiction) hlen j
abbrev r_X0_countsAsDrawn : e_MT := ((yX0_countsAsDrawn, 4), (1, false), (553, 551, 39, 552))
abbrev K_X0_countsAsDrawn : e_KT := (4, false, cX0_countsAsDrawn, 3, [])
theorem rM_X0_countsAsDrawn : e_M[22]? = some r_X0_countsAsDrawn := by rfl
theorem rC_X0_countsAsDrawn : e_tb 553 = some (Cond.code yX0_countsAsDrawn cX0_countsAsDrawn 3 (some FieldType.boolean)) := by decide +kernel
theorem m_X0_countsAsDrawn {X : e_XT} {d : Nat} {args : List Value} {S : e_SS} {Q : e_Rt → e_SS → Prop} (hlen : (e_slx args).length ≤ 3) (j : s_w X d K_X0_countsAsDrawn 0 (e_ent0 args 3) [] S (fun r S' => e_rcr (some FieldType.boolean) r = true ∧ Q r S')) : s_c X d 22 args S Q := c_of rM_X0_countsAsDrawn rC_X0_countsAsDrawn rfl (fun _ => by contradiction) hlen j
abbrev r_X0_isSounding : e_MT := ((yX0_isSounding, 4), (1, false), (549, 547, 39, 548))
abbrev K_X0_isSounding : e_KT := (4, false, cX0_isSounding, 3, [])
theorem rM_X0_isSounding : e_M[23]? = some r_X0_isSounding := by rfl
theorem rC_X0_isSounding : e_tb 549 = some (Cond.code yX0_isSounding cX0_isSounding 3 (some FieldType.boolean)) := by decide +kernel
theorem m_X0_isSounding {X : e_XT} {d : Nat} {args : List Value} {S : e_SS} {Q : e_Rt → e_SS → Prop} (hlen : (e_slx args).length ≤ 3) (j : s_w X d K_X0_isSounding 0 (e_ent0 args 3) [] S (fun r S' => e_rcr (some FieldType.boolean) r = true ∧ Q r S')) : s_c X d 23 args S Q := c_of rM_X0_isSounding rC_X0_isSounding rfl (fun _ => by contradiction) hlen j
abbrev r_X0_trembles : e_MT := ((yX0_trembles, 4), (1, false), (885, 883, 39, 884))
abbrev K_X0_trembles : e_KT := (4, false, cX0_trembles, 4, [])
theorem rM_X0_trembles : e_M[24]? = some r_X0_trembles := by rfl
theorem rC_X0_trembles : e_tb 885 = some (Cond.code yX0_trembles cX0_trembles 4 (some FieldType.boolean)) := by decide +kernel
theorem m_X0_trembles {X : e_XT} {d : Nat} {args : List Value} {S : e_SS} {Q : e_Rt → e_SS → Prop} (hlen : (e_slx args).length ≤ 4) (j : s_w X d K_X0_trembles 0 (e_ent0 args 4) [] S (fun r S' => e_rcr (some FieldType.boolean) r = true ∧ Q r S')) : s_c X d 24 args S Q := c_of rM_X0_trembles rC_X0_trembles rfl (fun _ => by contradiction) hlen j
abbrev r_X0_moveTo : e_MT := ((yX0_moveTo, 4), (2, false), (1228, 1226, 39, 1227))
abbrev K_X0_moveTo : e_KT := (4, false, cX0_moveTo, 9, [])
theorem rM_X0_moveTo : e_M[25]? = some r_X0_moveTo := by rfl
theorem rC_X0_moveTo : e_tb 1228 = some (Cond.code yX0_moveTo cX0_moveTo 9 (some FieldType.int)) := by decide +kernel
theorem m_X0_moveTo {X : e_XT} {d : Nat} {args : List Value} {S : e_SS} {Q : e_Rt → e_SS → Prop} (hlen : (e_slx args).length ≤ 9) (j : s_w X d K_X0_moveTo 0 (e_ent0 args 9) [] S (fun r S' => e_rcr (some FieldType.int) r = true ∧ Q r S')) : s_c X d 25 args S Q := c_of rM_X0_moveTo rC_X0_moveTo rfl (fun _ => by contradiction) hlen j
abbrev r_X0_waysOf : e_MT := ((yX0_waysOf, 4), (4, false), (557, 555, 39, 556))
abbrev K_X0_waysOf : e_KT := (4, false, cX0_waysOf, 9, [])
theorem rM_X0_waysOf : e_M[26]? = some r_X0_waysOf := by rfl
theorem rC_X0_waysOf : e_tb 557 = some (Cond.code yX0_waysOf cX0_waysOf 9 (some FieldType.int)) := by decide +kernel
theorem m_X0_waysOf {X : e_XT} {d : Nat} {args : List Value} {S : e_SS} {Q : e_Rt → e_SS → Prop} (hlen : (e_slx args).length ≤ 9) (j : s_w X d K_X0_waysOf 0 (e_ent0 args 9) [] S (fun r S' => e_rcr (some FieldType.int) r = true ∧ Q r S')) : s_c X d 26 args S Q := c_of rM_X0_waysOf rC_X0_waysOf rfl (fun _ => by contradiction) hlen j
abbrev r_X0_knobsInScope : e_MT := ((yX0_knobsInScope, 4), (0, false), (1162, 1160, 39, 1161))
abbrev K_X0_knobsInScope : e_KT := (4, false, cX0_knobsInScope, 4, [])
theorem rM_X0_knobsInScope : e_M[27]? = some r_X0_knobsInScope := by rfl
theorem rC_X0_knobsInScope : e_tb 1162 = some (Cond.code yX0_knobsInScope cX0_knobsInScope 4 (some FieldType.long)) := by decide +kernel
theorem m_X0_knobsInScope {X : e_XT} {d : Nat} {args : List Value} {S : e_SS} {Q : e_Rt → e_SS → Prop} (hlen : (e_slx args).length ≤ 4) (j : s_w X d K_X0_knobsInScope 0 (e_ent0 args 4) [] S (fun r S' => e_rcr (some FieldType.long) r = true ∧ Q r S')) : s_c X d 27 args S Q := c_of rM_X0_knobsInScope rC_X0_knobsInScope rfl (fun _ => by contradiction) hlen j
abbrev r_X0_stopsOf : e_MT := ((yX0_stopsOf, 4), (1, false), (1166, 1164, 39, 1165))
abbrev K_X0_stopsOf : e_KT := (4, false, cX0_stopsOf, 6, [])
theorem rM_X0_stopsOf : e_M[28]? = some r_X0_stopsOf := by rfl
theorem rC_X0_stopsOf : e_tb 1166 = some (Cond.code yX0_stopsOf cX0_stopsOf 6 (some FieldType.long)) := by decide +kernel
theorem m_X0_stopsOf {X : e_XT} {d : Nat} {args : List Value} {S : e_SS} {Q : e_Rt → e_SS → Prop} (hlen : (e_slx args).length ≤ 6) (j : s_w X d K_X0_stopsOf 0 (e_ent0 args 6) [] S (fun r S' => e_rcr (some FieldType.long) r = true ∧ Q r S')) : s_c X d 28 args S Q := c_of rM_X0_stopsOf rC_X0_stopsOf rfl (fun _ => by contradiction) hlen j
abbrev r_X0_drawnAmong : e_MT := ((yX0_drawnAmong, 4), (1, false), (1170, 1168, 39, 1169))
abbrev K_X0_drawnAmong : e_KT := (4, false, cX0_drawnAmong, 6, [])
theorem rM_X0_drawnAmong : e_M[29]? = some r_X0_drawnAmong := by rfl
theorem rC_X0_drawnAmong : e_tb 1170 = some (Cond.code yX0_drawnAmong cX0_drawnAmong 6 (some FieldType.long)) := by decide +kernel
theorem m_X0_drawnAmong {X : e_XT} {d : Nat} {args : List Value} {S : e_SS} {Q : e_Rt → e_SS → Prop} (hlen : (e_slx args).length ≤ 6) (j : s_w X d K_X0_drawnAmong 0 (e_ent0 args 6) [] S (fun r S' => e_rcr (some FieldType.long) r = true ∧ Q r S')) : s_c X d 29 args S Q := c_of rM_X0_drawnAmong rC_X0_drawnAmong rfl (fun _ => by contradiction) hlen j
abbrev r_X0_allKnobs : e_MT := ((yX0_allKnobs, 4), (0, false), (1259, 1257, 39, 1258))
abbrev K_X0_allKnobs : e_KT := (4, false, cX0_allKnobs, 1, [])
theorem rM_X0_allKnobs : e_M[30]? = some r_X0_allKnobs := by rfl
theorem rC_X0_allKnobs : e_tb 1259 = some (Cond.code yX0_allKnobs cX0_allKnobs 1 (some FieldType.long)) := by decide +kernel
theorem m_X0_allKnobs {X : e_XT} {d : Nat} {args : List Value} {S : e_SS} {Q : e_Rt → e_SS → Prop} (hlen : (e_slx args).length ≤ 1) (j : s_w X d K_X0_allKnobs 0 (e_ent0 args 1) [] S (fun r S' => e_rcr (some FieldType.long) r = true ∧ Q r S')) : s_c X d 30 args S Q := c_of rM_X0_allKnobs rC_X0_allKnobs rfl (fun _ => by contradiction) hlen j
abbrev r_X0_isSource : e_MT := ((yX0_isSource, 4), (2, true), (1338, 1337, 39, 9999))
abbrev K_X0_isSource : e_KT := (4, false, cX0_isSource, 2, [])
theorem rM_X0_isSource : e_M[31]? = some r_X0_isSource := by rfl
theorem rC_X0_isSource : e_tb 1338 = some (Cond.code yX0_isSource cX0_isSource 2 (some FieldType.boolean)) := by decide +kernel
theorem m_X0_isSource {X : e_XT} {d : Nat} {args : List Value} {S : e_SS} {Q : e_Rt → e_SS → Prop} (hlen : (e_slx args).length ≤ 2) (j : s_w X d K_X0_isSource 0 (e_ent0 args 2) [] S (fun r S' => e_rcr (some FieldType.boolean) r = true ∧ Q r S')) : s_c X d 31 args S Q := c_of rM_X0_isSource rC_X0_isSource rfl (fun _ => by contradiction) hlen j
abbrev r_X0_putWires : e_MT := ((yX0_putWires, 4), (4, false), (1345, 1343, 39, 1344))
abbrev K_X0_putWires : e_KT := (4, false, cX0_putWires, 5, [])
theorem rM_X0_putWires : e_M[32]? = some r_X0_putWires := by rfl
theorem rC_X0_putWires : e_tb 1345 = some (Cond.code yX0_putWires cX0_putWires 5 (none)) := by decide +kernel
theorem m_X0_putWires {X : e_XT} {d : Nat} {args : List Value} {S : e_SS} {Q : e_Rt → e_SS → Prop} (hlen : (e_slx args).length ≤ 5) (j : s_w X d K_X0_putWires 0 (e_ent0 args 5) [] S (fun r S' => e_rcr (none) r = true ∧ Q r S')) : s_c X d 32 args S Q := c_of rM_X0_putWires rC_X0_putWires rfl (fun _ => by contradiction) hlen j
abbrev r_X1_init : e_MT := ((yX1_init, 5), (0, false), (440, 439, 50, 9999))
abbrev K_X1_init : e_KT := (5, true, cX1_init, 1, [])
theorem rM_X1_init : e_M[33]? = some r_X1_init := by rfl
theorem rC_X1_init : e_tb 440 = some (Cond.code yX1_init cX1_init 1 (none)) := by decide +kernel
theorem m_X1_init {X : e_XT} {d : Nat} {args : List Value} {S : e_SS} {Q : e_Rt → e_SS → Prop} (hlen : (e_slx args).length ≤ 1) (j : s_w X d K_X1_init 0 (e_ent0 args 1) [] S (fun r S' => e_rcr (none) r = true ∧ Q r S')) : s_c X d 33 args S Q := c_of rM_X1_init rC_X1_init rfl (fun _ => by rfl) hlen j
abbrev r_X1_stepsOf : e_MT := ((yX1_stepsOf, 5), (1, true), (1398, 1397, 50, 9999))
abbrev K_X1_stepsOf : e_KT := (5, false, cX1_stepsOf, 1, [])
theorem rM_X1_stepsOf : e_M[35]? = some r_X1_stepsOf := by rfl
theorem rC_X1_stepsOf : e_tb 1398 = some (Cond.code yX1_stepsOf cX1_stepsOf 1 (some (FieldType.array FieldType.int))) := by decide +kernel
theorem m_X1_stepsOf {X : e_XT} {d : Nat} {args : List Value} {S : e_SS} {Q : e_Rt → e_SS → Prop} (hlen : (e_slx args).length ≤ 1) (j : s_w X d K_X1_stepsOf 0 (e_ent0 args 1) [] S (fun r S' => e_rcr (some (FieldType.array FieldType.int)) r = true ∧ Q r S')) : s_c X d 35 args S Q := c_of rM_X1_stepsOf rC_X1_stepsOf rfl (fun _ => by contradiction) hlen j
abbrev r_X1_degreeOf : e_MT := ((yX1_degreeOf, 5), (1, false), (1413, 1411, 50, 1412))
abbrev K_X1_degreeOf : e_KT := (5, false, cX1_degreeOf, 4, [])
theorem rM_X1_degreeOf : e_M[36]? = some r_X1_degreeOf := by rfl
theorem rC_X1_degreeOf : e_tb 1413 = some (Cond.code yX1_degreeOf cX1_degreeOf 4 (some FieldType.int)) := by decide +kernel
theorem m_X1_degreeOf {X : e_XT} {d : Nat} {args : List Value} {S : e_SS} {Q : e_Rt → e_SS → Prop} (hlen : (e_slx args).length ≤ 4) (j : s_w X d K_X1_degreeOf 0 (e_ent0 args 4) [] S (fun r S' => e_rcr (some FieldType.int) r = true ∧ Q r S')) : s_c X d 36 args S Q := c_of rM_X1_degreeOf rC_X1_degreeOf rfl (fun _ => by contradiction) hlen j
abbrev r_X1_choose : e_MT := ((yX1_choose, 5), (2, false), (1422, 1420, 50, 1421))
abbrev K_X1_choose : e_KT := (5, false, cX1_choose, 8, [])
theorem rM_X1_choose : e_M[37]? = some r_X1_choose := by rfl
theorem rC_X1_choose : e_tb 1422 = some (Cond.code yX1_choose cX1_choose 8 (some FieldType.int)) := by decide +kernel
theorem m_X1_choose {X : e_XT} {d : Nat} {args : List Value} {S : e_SS} {Q : e_Rt → e_SS → Prop} (hlen : (e_slx args).length ≤ 8) (j : s_w X d K_X1_choose 0 (e_ent0 args 8) [] S (fun r S' => e_rcr (some FieldType.int) r = true ∧ Q r S')) : s_c X d 37 args S Q := c_of rM_X1_choose rC_X1_choose rfl (fun _ => by contradiction) hlen j
abbrev r_X1_asks : e_MT := ((yX1_asks, 5), (3, false), (1429, 1428, 50, 26))
abbrev K_X1_asks : e_KT := (5, false, cX1_asks, 9, [])
theorem rM_X1_asks : e_M[38]? = some r_X1_asks := by rfl
theorem rC_X1_asks : e_tb 1429 = some (Cond.code yX1_asks cX1_asks 9 (some FieldType.boolean)) := by decide +kernel
theorem m_X1_asks {X : e_XT} {d : Nat} {args : List Value} {S : e_SS} {Q : e_Rt → e_SS → Prop} (hlen : (e_slx args).length ≤ 9) (j : s_w X d K_X1_asks 0 (e_ent0 args 9) [] S (fun r S' => e_rcr (some FieldType.boolean) r = true ∧ Q r S')) : s_c X d 38 args S Q := c_of rM_X1_asks rC_X1_asks rfl (fun _ => by contradiction) hlen j
abbrev r_X1_areApart : e_MT := ((yX1_areApart, 5), (3, true), (1432, 1431, 50, 9999))
abbrev K_X1_areApart : e_KT := (5, false, cX1_areApart, 3, [])
theorem rM_X1_areApart : e_M[39]? = some r_X1_areApart := by rfl
theorem rC_X1_areApart : e_tb 1432 = some (Cond.code yX1_areApart cX1_areApart 3 (some FieldType.boolean)) := by decide +kernel
theorem m_X1_areApart {X : e_XT} {d : Nat} {args : List Value} {S : e_SS} {Q : e_Rt → e_SS → Prop} (hlen : (e_slx args).length ≤ 3) (j : s_w X d K_X1_areApart 0 (e_ent0 args 3) [] S (fun r S' => e_rcr (some FieldType.boolean) r = true ∧ Q r S')) : s_c X d 39 args S Q := c_of rM_X1_areApart rC_X1_areApart rfl (fun _ => by contradiction) hlen j
abbrev r_X1_weigh : e_MT := ((yX1_weigh, 5), (3, false), (1436, 1435, 50, 27))
abbrev K_X1_weigh : e_KT := (5, false, cX1_weigh, 6, [])
theorem rM_X1_weigh : e_M[40]? = some r_X1_weigh := by rfl
theorem rC_X1_weigh : e_tb 1436 = some (Cond.code yX1_weigh cX1_weigh 6 (none)) := by decide +kernel
theorem m_X1_weigh {X : e_XT} {d : Nat} {args : List Value} {S : e_SS} {Q : e_Rt → e_SS → Prop} (hlen : (e_slx args).length ≤ 6) (j : s_w X d K_X1_weigh 0 (e_ent0 args 6) [] S (fun r S' => e_rcr (none) r = true ∧ Q r S')) : s_c X d 40 args S Q := c_of rM_X1_weigh rC_X1_weigh rfl (fun _ => by contradiction) hlen j
abbrev r_X1_badSteps : e_MT := ((yX1_badSteps, 5), (0, false), (1440, 1439, 50, 28))
abbrev K_X1_badSteps : e_KT := (5, false, cX1_badSteps, 4, [])
theorem rM_X1_badSteps : e_M[41]? = some r_X1_badSteps := by rfl
theorem rC_X1_badSteps : e_tb 1440 = some (Cond.code yX1_badSteps cX1_badSteps 4 (some FieldType.int)) := by decide +kernel
theorem m_X1_badSteps {X : e_XT} {d : Nat} {args : List Value} {S : e_SS} {Q : e_Rt → e_SS → Prop} (hlen : (e_slx args).length ≤ 4) (j : s_w X d K_X1_badSteps 0 (e_ent0 args 4) [] S (fun r S' => e_rcr (some FieldType.int) r = true ∧ Q r S')) : s_c X d 41 args S Q := c_of rM_X1_badSteps rC_X1_badSteps rfl (fun _ => by contradiction) hlen j
abbrev r_X1_isBadStep : e_MT := ((yX1_isBadStep, 5), (2, false), (1444, 1443, 50, 29))
abbrev K_X1_isBadStep : e_KT := (5, false, cX1_isBadStep, 7, [])
theorem rM_X1_isBadStep : e_M[42]? = some r_X1_isBadStep := by rfl
theorem rC_X1_isBadStep : e_tb 1444 = some (Cond.code yX1_isBadStep cX1_isBadStep 7 (some FieldType.boolean)) := by decide +kernel
theorem m_X1_isBadStep {X : e_XT} {d : Nat} {args : List Value} {S : e_SS} {Q : e_Rt → e_SS → Prop} (hlen : (e_slx args).length ≤ 7) (j : s_w X d K_X1_isBadStep 0 (e_ent0 args 7) [] S (fun r S' => e_rcr (some FieldType.boolean) r = true ∧ Q r S')) : s_c X d 42 args S Q := c_of rM_X1_isBadStep rC_X1_isBadStep rfl (fun _ => by contradiction) hlen j
abbrev r_X1_way : e_MT := ((yX1_way, 5), (3, false), (1451, 1450, 50, 30))
abbrev K_X1_way : e_KT := (5, false, cX1_way, 4, [])
theorem rM_X1_way : e_M[43]? = some r_X1_way := by rfl
theorem rC_X1_way : e_tb 1451 = some (Cond.code yX1_way cX1_way 4 (some FieldType.int)) := by decide +kernel
theorem m_X1_way {X : e_XT} {d : Nat} {args : List Value} {S : e_SS} {Q : e_Rt → e_SS → Prop} (hlen : (e_slx args).length ≤ 4) (j : s_w X d K_X1_way 0 (e_ent0 args 4) [] S (fun r S' => e_rcr (some FieldType.int) r = true ∧ Q r S')) : s_c X d 43 args S Q := c_of rM_X1_way rC_X1_way rfl (fun _ => by contradiction) hlen j
abbrev r_X1_keyOf : e_MT := ((yX1_keyOf, 5), (1, false), (1455, 1453, 50, 1454))
abbrev K_X1_keyOf : e_KT := (5, false, cX1_keyOf, 2, [])
theorem rM_X1_keyOf : e_M[44]? = some r_X1_keyOf := by rfl
theorem rC_X1_keyOf : e_tb 1455 = some (Cond.code yX1_keyOf cX1_keyOf 2 (some FieldType.int)) := by decide +kernel
theorem m_X1_keyOf {X : e_XT} {d : Nat} {args : List Value} {S : e_SS} {Q : e_Rt → e_SS → Prop} (hlen : (e_slx args).length ≤ 2) (j : s_w X d K_X1_keyOf 0 (e_ent0 args 2) [] S (fun r S' => e_rcr (some FieldType.int) r = true ∧ Q r S')) : s_c X d 44 args S Q := c_of rM_X1_keyOf rC_X1_keyOf rfl (fun _ => by contradiction) hlen j
abbrev r_X1_isOfChord : e_MT := ((yX1_isOfChord, 5), (2, false), (1464, 1462, 50, 1463))
abbrev K_X1_isOfChord : e_KT := (5, false, cX1_isOfChord, 3, [])
theorem rM_X1_isOfChord : e_M[45]? = some r_X1_isOfChord := by rfl
theorem rC_X1_isOfChord : e_tb 1464 = some (Cond.code yX1_isOfChord cX1_isOfChord 3 (some FieldType.boolean)) := by decide +kernel
theorem m_X1_isOfChord {X : e_XT} {d : Nat} {args : List Value} {S : e_SS} {Q : e_Rt → e_SS → Prop} (hlen : (e_slx args).length ≤ 3) (j : s_w X d K_X1_isOfChord 0 (e_ent0 args 3) [] S (fun r S' => e_rcr (some FieldType.boolean) r = true ∧ Q r S')) : s_c X d 45 args S Q := c_of rM_X1_isOfChord rC_X1_isOfChord rfl (fun _ => by contradiction) hlen j
abbrev r_X2_init : e_MT := ((yX2_init, 6), (4, false), (150, 149, 44, 9999))
abbrev K_X2_init : e_KT := (6, true, cX2_init, 5, [])
theorem rM_X2_init : e_M[46]? = some r_X2_init := by rfl
theorem rC_X2_init : e_tb 150 = some (Cond.code yX2_init cX2_init 5 (none)) := by decide +kernel
theorem m_X2_init {X : e_XT} {d : Nat} {args : List Value} {S : e_SS} {Q : e_Rt → e_SS → Prop} (hlen : (e_slx args).length ≤ 5) (j : s_w X d K_X2_init 0 (e_ent0 args 5) [] S (fun r S' => e_rcr (none) r = true ∧ Q r S')) : s_c X d 46 args S Q := c_of rM_X2_init rC_X2_init rfl (fun _ => by rfl) hlen j
abbrev r_X2_takes : e_MT := ((yX2_takes, 6), (3, false), (567, 565, 44, 566))
abbrev K_X2_takes : e_KT := (6, false, cX2_takes, 4, [])
theorem rM_X2_takes : e_M[47]? = some r_X2_takes := by rfl
theorem rC_X2_takes : e_tb 567 = some (Cond.code yX2_takes cX2_takes 4 (some FieldType.boolean)) := by decide +kernel
theorem m_X2_takes {X : e_XT} {d : Nat} {args : List Value} {S : e_SS} {Q : e_Rt → e_SS → Prop} (hlen : (e_slx args).length ≤ 4) (j : s_w X d K_X2_takes 0 (e_ent0 args 4) [] S (fun r S' => e_rcr (some FieldType.boolean) r = true ∧ Q r S')) : s_c X d 47 args S Q := c_of rM_X2_takes rC_X2_takes rfl (fun _ => by contradiction) hlen j
abbrev r_X3_init : e_MT := ((yX3_init, 7), (0, false), (88, 87, 37, 9999))
abbrev K_X3_init : e_KT := (7, true, cX3_init, 1, [])
theorem rM_X3_init : e_M[48]? = some r_X3_init := by rfl
theorem rC_X3_init : e_tb 88 = some (Cond.code yX3_init cX3_init 1 (none)) := by decide +kernel
theorem m_X3_init {X : e_XT} {d : Nat} {args : List Value} {S : e_SS} {Q : e_Rt → e_SS → Prop} (hlen : (e_slx args).length ≤ 1) (j : s_w X d K_X3_init 0 (e_ent0 args 1) [] S (fun r S' => e_rcr (none) r = true ∧ Q r S')) : s_c X d 48 args S Q := c_of rM_X3_init rC_X3_init rfl (fun _ => by rfl) hlen j
abbrev r_X3_isPressed : e_MT := ((yX3_isPressed, 7), (2, false), (571, 569, 37, 570))
abbrev K_X3_isPressed : e_KT := (7, false, cX3_isPressed, 4, [])
theorem rM_X3_isPressed : e_M[49]? = some r_X3_isPressed := by rfl
theorem rC_X3_isPressed : e_tb 571 = some (Cond.code yX3_isPressed cX3_isPressed 4 (some FieldType.boolean)) := by decide +kernel
theorem m_X3_isPressed {X : e_XT} {d : Nat} {args : List Value} {S : e_SS} {Q : e_Rt → e_SS → Prop} (hlen : (e_slx args).length ≤ 4) (j : s_w X d K_X3_isPressed 0 (e_ent0 args 4) [] S (fun r S' => e_rcr (some FieldType.boolean) r = true ∧ Q r S')) : s_c X d 49 args S Q := c_of rM_X3_isPressed rC_X3_isPressed rfl (fun _ => by contradiction) hlen j
abbrev r_X3_indexOf : e_MT := ((yX3_indexOf, 7), (2, true), (545, 544, 37, 9999))
abbrev K_X3_indexOf : e_KT := (7, false, cX3_indexOf, 2, [])
theorem rM_X3_indexOf : e_M[50]? = some r_X3_indexOf := by rfl
theorem rC_X3_indexOf : e_tb 545 = some (Cond.code yX3_indexOf cX3_indexOf 2 (some FieldType.int)) := by decide +kernel
theorem m_X3_indexOf {X : e_XT} {d : Nat} {args : List Value} {S : e_SS} {Q : e_Rt → e_SS → Prop} (hlen : (e_slx args).length ≤ 2) (j : s_w X d K_X3_indexOf 0 (e_ent0 args 2) [] S (fun r S' => e_rcr (some FieldType.int) r = true ∧ Q r S')) : s_c X d 50 args S Q := c_of rM_X3_indexOf rC_X3_indexOf rfl (fun _ => by contradiction) hlen j
abbrev r_X3_isAnyPressed : e_MT := ((yX3_isAnyPressed, 7), (0, false), (820, 818, 37, 819))
abbrev K_X3_isAnyPressed : e_KT := (7, false, cX3_isAnyPressed, 1, [])
theorem rM_X3_isAnyPressed : e_M[51]? = some r_X3_isAnyPressed := by rfl
theorem rC_X3_isAnyPressed : e_tb 820 = some (Cond.code yX3_isAnyPressed cX3_isAnyPressed 1 (some FieldType.boolean)) := by decide +kernel
theorem m_X3_isAnyPressed {X : e_XT} {d : Nat} {args : List Value} {S : e_SS} {Q : e_Rt → e_SS → Prop} (hlen : (e_slx args).length ≤ 1) (j : s_w X d K_X3_isAnyPressed 0 (e_ent0 args 1) [] S (fun r S' => e_rcr (some FieldType.boolean) r = true ∧ Q r S')) : s_c X d 51 args S Q := c_of rM_X3_isAnyPressed rC_X3_isAnyPressed rfl (fun _ => by contradiction) hlen j
abbrev r_X3_highestOf : e_MT := ((yX3_highestOf, 7), (1, false), (576, 574, 37, 575))
abbrev K_X3_highestOf : e_KT := (7, false, cX3_highestOf, 2, [])
theorem rM_X3_highestOf : e_M[52]? = some r_X3_highestOf := by rfl
theorem rC_X3_highestOf : e_tb 576 = some (Cond.code yX3_highestOf cX3_highestOf 2 (some FieldType.int)) := by decide +kernel
theorem m_X3_highestOf {X : e_XT} {d : Nat} {args : List Value} {S : e_SS} {Q : e_Rt → e_SS → Prop} (hlen : (e_slx args).length ≤ 2) (j : s_w X d K_X3_highestOf 0 (e_ent0 args 2) [] S (fun r S' => e_rcr (some FieldType.int) r = true ∧ Q r S')) : s_c X d 52 args S Q := c_of rM_X3_highestOf rC_X3_highestOf rfl (fun _ => by contradiction) hlen j
abbrev r_X3_lowestOf : e_MT := ((yX3_lowestOf, 7), (1, false), (580, 578, 37, 579))
abbrev K_X3_lowestOf : e_KT := (7, false, cX3_lowestOf, 2, [])
theorem rM_X3_lowestOf : e_M[53]? = some r_X3_lowestOf := by rfl
theorem rC_X3_lowestOf : e_tb 580 = some (Cond.code yX3_lowestOf cX3_lowestOf 2 (some FieldType.int)) := by decide +kernel
theorem m_X3_lowestOf {X : e_XT} {d : Nat} {args : List Value} {S : e_SS} {Q : e_Rt → e_SS → Prop} (hlen : (e_slx args).length ≤ 2) (j : s_w X d K_X3_lowestOf 0 (e_ent0 args 2) [] S (fun r S' => e_rcr (some FieldType.int) r = true ∧ Q r S')) : s_c X d 53 args S Q := c_of rM_X3_lowestOf rC_X3_lowestOf rfl (fun _ => by contradiction) hlen j
abbrev r_X3_tickOf : e_MT := ((yX3_tickOf, 7), (2, false), (584, 582, 37, 583))
abbrev K_X3_tickOf : e_KT := (7, false, cX3_tickOf, 4, [])
theorem rM_X3_tickOf : e_M[54]? = some r_X3_tickOf := by rfl
theorem rC_X3_tickOf : e_tb 584 = some (Cond.code yX3_tickOf cX3_tickOf 4 (some FieldType.int)) := by decide +kernel
theorem m_X3_tickOf {X : e_XT} {d : Nat} {args : List Value} {S : e_SS} {Q : e_Rt → e_SS → Prop} (hlen : (e_slx args).length ≤ 4) (j : s_w X d K_X3_tickOf 0 (e_ent0 args 4) [] S (fun r S' => e_rcr (some FieldType.int) r = true ∧ Q r S')) : s_c X d 54 args S Q := c_of rM_X3_tickOf rC_X3_tickOf rfl (fun _ => by contradiction) hlen j
abbrev r_X3_countOf : e_MT := ((yX3_countOf, 7), (1, true), (837, 836, 37, 9999))
abbrev K_X3_countOf : e_KT := (7, false, cX3_countOf, 1, [])
theorem rM_X3_countOf : e_M[55]? = some r_X3_countOf := by rfl
theorem rC_X3_countOf : e_tb 837 = some (Cond.code yX3_countOf cX3_countOf 1 (some FieldType.int)) := by decide +kernel
theorem m_X3_countOf {X : e_XT} {d : Nat} {args : List Value} {S : e_SS} {Q : e_Rt → e_SS → Prop} (hlen : (e_slx args).length ≤ 1) (j : s_w X d K_X3_countOf 0 (e_ent0 args 1) [] S (fun r S' => e_rcr (some FieldType.int) r = true ∧ Q r S')) : s_c X d 55 args S Q := c_of rM_X3_countOf rC_X3_countOf rfl (fun _ => by contradiction) hlen j
abbrev r_X3_put : e_MT := ((yX3_put, 7), (4, false), (1089, 1087, 37, 1088))
abbrev K_X3_put : e_KT := (7, false, cX3_put, 6, [])
theorem rM_X3_put : e_M[56]? = some r_X3_put := by rfl
theorem rC_X3_put : e_tb 1089 = some (Cond.code yX3_put cX3_put 6 (some FieldType.boolean)) := by decide +kernel
theorem m_X3_put {X : e_XT} {d : Nat} {args : List Value} {S : e_SS} {Q : e_Rt → e_SS → Prop} (hlen : (e_slx args).length ≤ 6) (j : s_w X d K_X3_put 0 (e_ent0 args 6) [] S (fun r S' => e_rcr (some FieldType.boolean) r = true ∧ Q r S')) : s_c X d 56 args S Q := c_of rM_X3_put rC_X3_put rfl (fun _ => by contradiction) hlen j
abbrev r_X3_firstPressed : e_MT := ((yX3_firstPressed, 7), (3, false), (1093, 1092, 37, 21))
abbrev K_X3_firstPressed : e_KT := (7, false, cX3_firstPressed, 6, [])
theorem rM_X3_firstPressed : e_M[57]? = some r_X3_firstPressed := by rfl
theorem rC_X3_firstPressed : e_tb 1093 = some (Cond.code yX3_firstPressed cX3_firstPressed 6 (some FieldType.int)) := by decide +kernel
theorem m_X3_firstPressed {X : e_XT} {d : Nat} {args : List Value} {S : e_SS} {Q : e_Rt → e_SS → Prop} (hlen : (e_slx args).length ≤ 6) (j : s_w X d K_X3_firstPressed 0 (e_ent0 args 6) [] S (fun r S' => e_rcr (some FieldType.int) r = true ∧ Q r S')) : s_c X d 57 args S Q := c_of rM_X3_firstPressed rC_X3_firstPressed rfl (fun _ => by contradiction) hlen j
abbrev r_X4_init : e_MT := ((yX4_init, 8), (4, false), (172, 171, 43, 9999))
abbrev K_X4_init : e_KT := (8, true, cX4_init, 5, [])
theorem rM_X4_init : e_M[58]? = some r_X4_init := by rfl
theorem rC_X4_init : e_tb 172 = some (Cond.code yX4_init cX4_init 5 (none)) := by decide +kernel
theorem m_X4_init {X : e_XT} {d : Nat} {args : List Value} {S : e_SS} {Q : e_Rt → e_SS → Prop} (hlen : (e_slx args).length ≤ 5) (j : s_w X d K_X4_init 0 (e_ent0 args 5) [] S (fun r S' => e_rcr (none) r = true ∧ Q r S')) : s_c X d 58 args S Q := c_of rM_X4_init rC_X4_init rfl (fun _ => by rfl) hlen j
abbrev r_X5_init : e_MT := ((yX5_init, 9), (0, false), (398, 397, 49, 9999))
abbrev K_X5_init : e_KT := (9, true, cX5_init, 1, [])
theorem rM_X5_init : e_M[59]? = some r_X5_init := by rfl
theorem rC_X5_init : e_tb 398 = some (Cond.code yX5_init cX5_init 1 (none)) := by decide +kernel
theorem m_X5_init {X : e_XT} {d : Nat} {args : List Value} {S : e_SS} {Q : e_Rt → e_SS → Prop} (hlen : (e_slx args).length ≤ 1) (j : s_w X d K_X5_init 0 (e_ent0 args 1) [] S (fun r S' => e_rcr (none) r = true ∧ Q r S')) : s_c X d 59 args S Q := c_of rM_X5_init rC_X5_init rfl (fun _ => by rfl) hlen j
abbrev r_X5_placeOf : e_MT := ((yX5_placeOf, 9), (2, true), (1143, 1142, 49, 9999))
abbrev K_X5_placeOf : e_KT := (9, false, cX5_placeOf, 3, [])
theorem rM_X5_placeOf : e_M[60]? = some r_X5_placeOf := by rfl
theorem rC_X5_placeOf : e_tb 1143 = some (Cond.code yX5_placeOf cX5_placeOf 3 (some FieldType.int)) := by decide +kernel
theorem m_X5_placeOf {X : e_XT} {d : Nat} {args : List Value} {S : e_SS} {Q : e_Rt → e_SS → Prop} (hlen : (e_slx args).length ≤ 3) (j : s_w X d K_X5_placeOf 0 (e_ent0 args 3) [] S (fun r S' => e_rcr (some FieldType.int) r = true ∧ Q r S')) : s_c X d 60 args S Q := c_of rM_X5_placeOf rC_X5_placeOf rfl (fun _ => by contradiction) hlen j
abbrev r_X5_isKept : e_MT := ((yX5_isKept, 9), (1, false), (1196, 1194, 49, 1195))
abbrev K_X5_isKept : e_KT := (9, false, cX5_isKept, 3, [])
theorem rM_X5_isKept : e_M[61]? = some r_X5_isKept := by rfl
theorem rC_X5_isKept : e_tb 1196 = some (Cond.code yX5_isKept cX5_isKept 3 (some FieldType.boolean)) := by decide +kernel
theorem m_X5_isKept {X : e_XT} {d : Nat} {args : List Value} {S : e_SS} {Q : e_Rt → e_SS → Prop} (hlen : (e_slx args).length ≤ 3) (j : s_w X d K_X5_isKept 0 (e_ent0 args 3) [] S (fun r S' => e_rcr (some FieldType.boolean) r = true ∧ Q r S')) : s_c X d 61 args S Q := c_of rM_X5_isKept rC_X5_isKept rfl (fun _ => by contradiction) hlen j
abbrev r_X5_indexOf : e_MT := ((yX5_indexOf, 9), (1, false), (1178, 1177, 49, 23))
abbrev K_X5_indexOf : e_KT := (9, false, cX5_indexOf, 2, [])
theorem rM_X5_indexOf : e_M[62]? = some r_X5_indexOf := by rfl
theorem rC_X5_indexOf : e_tb 1178 = some (Cond.code yX5_indexOf cX5_indexOf 2 (some FieldType.int)) := by decide +kernel
theorem m_X5_indexOf {X : e_XT} {d : Nat} {args : List Value} {S : e_SS} {Q : e_Rt → e_SS → Prop} (hlen : (e_slx args).length ≤ 2) (j : s_w X d K_X5_indexOf 0 (e_ent0 args 2) [] S (fun r S' => e_rcr (some FieldType.int) r = true ∧ Q r S')) : s_c X d 62 args S Q := c_of rM_X5_indexOf rC_X5_indexOf rfl (fun _ => by contradiction) hlen j
abbrev r_X5_keptBy : e_MT := ((yX5_keptBy, 9), (1, false), (1216, 1214, 49, 1215))
abbrev K_X5_keptBy : e_KT := (9, false, cX5_keptBy, 3, [])
theorem rM_X5_keptBy : e_M[63]? = some r_X5_keptBy := by rfl
theorem rC_X5_keptBy : e_tb 1216 = some (Cond.code yX5_keptBy cX5_keptBy 3 (some FieldType.long)) := by decide +kernel
theorem m_X5_keptBy {X : e_XT} {d : Nat} {args : List Value} {S : e_SS} {Q : e_Rt → e_SS → Prop} (hlen : (e_slx args).length ≤ 3) (j : s_w X d K_X5_keptBy 0 (e_ent0 args 3) [] S (fun r S' => e_rcr (some FieldType.long) r = true ∧ Q r S')) : s_c X d 63 args S Q := c_of rM_X5_keptBy rC_X5_keptBy rfl (fun _ => by contradiction) hlen j
abbrev r_X5_drawnBy : e_MT := ((yX5_drawnBy, 9), (1, false), (1220, 1218, 49, 1219))
abbrev K_X5_drawnBy : e_KT := (9, false, cX5_drawnBy, 3, [])
theorem rM_X5_drawnBy : e_M[64]? = some r_X5_drawnBy := by rfl
theorem rC_X5_drawnBy : e_tb 1220 = some (Cond.code yX5_drawnBy cX5_drawnBy 3 (some FieldType.long)) := by decide +kernel
theorem m_X5_drawnBy {X : e_XT} {d : Nat} {args : List Value} {S : e_SS} {Q : e_Rt → e_SS → Prop} (hlen : (e_slx args).length ≤ 3) (j : s_w X d K_X5_drawnBy 0 (e_ent0 args 3) [] S (fun r S' => e_rcr (some FieldType.long) r = true ∧ Q r S')) : s_c X d 64 args S Q := c_of rM_X5_drawnBy rC_X5_drawnBy rfl (fun _ => by contradiction) hlen j
abbrev r_X5_isClaimedByAnother : e_MT := ((yX5_isClaimedByAnother, 9), (0, false), (1153, 1151, 49, 1152))
abbrev K_X5_isClaimedByAnother : e_KT := (9, false, cX5_isClaimedByAnother, 1, [])
theorem rM_X5_isClaimedByAnother : e_M[66]? = some r_X5_isClaimedByAnother := by rfl
theorem rC_X5_isClaimedByAnother : e_tb 1153 = some (Cond.code yX5_isClaimedByAnother cX5_isClaimedByAnother 1 (some FieldType.boolean)) := by decide +kernel
theorem m_X5_isClaimedByAnother {X : e_XT} {d : Nat} {args : List Value} {S : e_SS} {Q : e_Rt → e_SS → Prop} (hlen : (e_slx args).length ≤ 1) (j : s_w X d K_X5_isClaimedByAnother 0 (e_ent0 args 1) [] S (fun r S' => e_rcr (some FieldType.boolean) r = true ∧ Q r S')) : s_c X d 66 args S Q := c_of rM_X5_isClaimedByAnother rC_X5_isClaimedByAnother rfl (fun _ => by contradiction) hlen j
abbrev r_X5_isClaimed : e_MT := ((yX5_isClaimed, 9), (0, false), (1157, 1155, 49, 1156))
abbrev K_X5_isClaimed : e_KT := (9, false, cX5_isClaimed, 1, [])
theorem rM_X5_isClaimed : e_M[67]? = some r_X5_isClaimed := by rfl
theorem rC_X5_isClaimed : e_tb 1157 = some (Cond.code yX5_isClaimed cX5_isClaimed 1 (some FieldType.boolean)) := by decide +kernel
theorem m_X5_isClaimed {X : e_XT} {d : Nat} {args : List Value} {S : e_SS} {Q : e_Rt → e_SS → Prop} (hlen : (e_slx args).length ≤ 1) (j : s_w X d K_X5_isClaimed 0 (e_ent0 args 1) [] S (fun r S' => e_rcr (some FieldType.boolean) r = true ∧ Q r S')) : s_c X d 67 args S Q := c_of rM_X5_isClaimed rC_X5_isClaimed rfl (fun _ => by contradiction) hlen j
abbrev r_X5_keep : e_MT := ((yX5_keep, 9), (3, false), (1174, 1172, 49, 1173))
abbrev K_X5_keep : e_KT := (9, false, cX5_keep, 7, [])
theorem rM_X5_keep : e_M[70]? = some r_X5_keep := by rfl
theorem rC_X5_keep : e_tb 1174 = some (Cond.code yX5_keep cX5_keep 7 (none)) := by decide +kernel
theorem m_X5_keep {X : e_XT} {d : Nat} {args : List Value} {S : e_SS} {Q : e_Rt → e_SS → Prop} (hlen : (e_slx args).length ≤ 7) (j : s_w X d K_X5_keep 0 (e_ent0 args 7) [] S (fun r S' => e_rcr (none) r = true ∧ Q r S')) : s_c X d 70 args S Q := c_of rM_X5_keep rC_X5_keep rfl (fun _ => by contradiction) hlen j
abbrev r_X5_reversibleKnob : e_MT := ((yX5_reversibleKnob, 9), (1, false), (1375, 1373, 49, 1374))
abbrev K_X5_reversibleKnob : e_KT := (9, false, cX5_reversibleKnob, 3, [])
theorem rM_X5_reversibleKnob : e_M[71]? = some r_X5_reversibleKnob := by rfl
theorem rC_X5_reversibleKnob : e_tb 1375 = some (Cond.code yX5_reversibleKnob cX5_reversibleKnob 3 (some FieldType.int)) := by decide +kernel
theorem m_X5_reversibleKnob {X : e_XT} {d : Nat} {args : List Value} {S : e_SS} {Q : e_Rt → e_SS → Prop} (hlen : (e_slx args).length ≤ 3) (j : s_w X d K_X5_reversibleKnob 0 (e_ent0 args 3) [] S (fun r S' => e_rcr (some FieldType.int) r = true ∧ Q r S')) : s_c X d 71 args S Q := c_of rM_X5_reversibleKnob rC_X5_reversibleKnob rfl (fun _ => by contradiction) hlen j
abbrev r_X5_keepReversible : e_MT := ((yX5_keepReversible, 9), (2, false), (1379, 1377, 49, 1378))
abbrev K_X5_keepReversible : e_KT := (9, false, cX5_keepReversible, 3, [])
theorem rM_X5_keepReversible : e_M[72]? = some r_X5_keepReversible := by rfl
theorem rC_X5_keepReversible : e_tb 1379 = some (Cond.code yX5_keepReversible cX5_keepReversible 3 (none)) := by decide +kernel
theorem m_X5_keepReversible {X : e_XT} {d : Nat} {args : List Value} {S : e_SS} {Q : e_Rt → e_SS → Prop} (hlen : (e_slx args).length ≤ 3) (j : s_w X d K_X5_keepReversible 0 (e_ent0 args 3) [] S (fun r S' => e_rcr (none) r = true ∧ Q r S')) : s_c X d 72 args S Q := c_of rM_X5_keepReversible rC_X5_keepReversible rfl (fun _ => by contradiction) hlen j
abbrev r_X5_frames : e_MT := ((yX5_frames, 9), (0, false), (1253, 1251, 49, 1252))
abbrev K_X5_frames : e_KT := (9, false, cX5_frames, 1, [])
theorem rM_X5_frames : e_M[73]? = some r_X5_frames := by rfl
theorem rC_X5_frames : e_tb 1253 = some (Cond.code yX5_frames cX5_frames 1 (some FieldType.int)) := by decide +kernel
theorem m_X5_frames {X : e_XT} {d : Nat} {args : List Value} {S : e_SS} {Q : e_Rt → e_SS → Prop} (hlen : (e_slx args).length ≤ 1) (j : s_w X d K_X5_frames 0 (e_ent0 args 1) [] S (fun r S' => e_rcr (some FieldType.int) r = true ∧ Q r S')) : s_c X d 73 args S Q := c_of rM_X5_frames rC_X5_frames rfl (fun _ => by contradiction) hlen j
abbrev r_X5_insertFrame : e_MT := ((yX5_insertFrame, 9), (3, false), (1263, 1261, 49, 1262))
abbrev K_X5_insertFrame : e_KT := (9, false, cX5_insertFrame, 8, [])
theorem rM_X5_insertFrame : e_M[74]? = some r_X5_insertFrame := by rfl
theorem rC_X5_insertFrame : e_tb 1263 = some (Cond.code yX5_insertFrame cX5_insertFrame 8 (none)) := by decide +kernel
theorem m_X5_insertFrame {X : e_XT} {d : Nat} {args : List Value} {S : e_SS} {Q : e_Rt → e_SS → Prop} (hlen : (e_slx args).length ≤ 8) (j : s_w X d K_X5_insertFrame 0 (e_ent0 args 8) [] S (fun r S' => e_rcr (none) r = true ∧ Q r S')) : s_c X d 74 args S Q := c_of rM_X5_insertFrame rC_X5_insertFrame rfl (fun _ => by contradiction) hlen j
abbrev r_X5_keptByFrame : e_MT := ((yX5_keptByFrame, 9), (1, false), (1281, 1279, 49, 1280))
abbrev K_X5_keptByFrame : e_KT := (9, false, cX5_keptByFrame, 2, [])
theorem rM_X5_keptByFrame : e_M[76]? = some r_X5_keptByFrame := by rfl
theorem rC_X5_keptByFrame : e_tb 1281 = some (Cond.code yX5_keptByFrame cX5_keptByFrame 2 (some FieldType.long)) := by decide +kernel
theorem m_X5_keptByFrame {X : e_XT} {d : Nat} {args : List Value} {S : e_SS} {Q : e_Rt → e_SS → Prop} (hlen : (e_slx args).length ≤ 2) (j : s_w X d K_X5_keptByFrame 0 (e_ent0 args 2) [] S (fun r S' => e_rcr (some FieldType.long) r = true ∧ Q r S')) : s_c X d 76 args S Q := c_of rM_X5_keptByFrame rC_X5_keptByFrame rfl (fun _ => by contradiction) hlen j
abbrev r_X5_drawnByFrame : e_MT := ((yX5_drawnByFrame, 9), (1, false), (1285, 1283, 49, 1284))
abbrev K_X5_drawnByFrame : e_KT := (9, false, cX5_drawnByFrame, 2, [])
theorem rM_X5_drawnByFrame : e_M[77]? = some r_X5_drawnByFrame := by rfl
theorem rC_X5_drawnByFrame : e_tb 1285 = some (Cond.code yX5_drawnByFrame cX5_drawnByFrame 2 (some FieldType.long)) := by decide +kernel
theorem m_X5_drawnByFrame {X : e_XT} {d : Nat} {args : List Value} {S : e_SS} {Q : e_Rt → e_SS → Prop} (hlen : (e_slx args).length ≤ 2) (j : s_w X d K_X5_drawnByFrame 0 (e_ent0 args 2) [] S (fun r S' => e_rcr (some FieldType.long) r = true ∧ Q r S')) : s_c X d 77 args S Q := c_of rM_X5_drawnByFrame rC_X5_drawnByFrame rfl (fun _ => by contradiction) hlen j
abbrev r_X6_allReasons : e_MT := ((yX6_allReasons, 10), (0, false), (516, 514, 57, 515))
abbrev K_X6_allReasons : e_KT := (10, false, cX6_allReasons, 1, [])
theorem rM_X6_allReasons : e_M[78]? = some r_X6_allReasons := by rfl
theorem rC_X6_allReasons : e_tb 516 = some (Cond.code yX6_allReasons cX6_allReasons 1 (some FieldType.int)) := by decide +kernel
theorem m_X6_allReasons {X : e_XT} {d : Nat} {args : List Value} {S : e_SS} {Q : e_Rt → e_SS → Prop} (hlen : (e_slx args).length ≤ 1) (j : s_w X d K_X6_allReasons 0 (e_ent0 args 1) [] S (fun r S' => e_rcr (some FieldType.int) r = true ∧ Q r S')) : s_c X d 78 args S Q := c_of rM_X6_allReasons rC_X6_allReasons rfl (fun _ => by contradiction) hlen j
abbrev r_X6_movePallet : e_MT := ((yX6_movePallet, 10), (3, false), (872, 870, 57, 871))
abbrev K_X6_movePallet : e_KT := (10, false, cX6_movePallet, 4, [])
theorem rM_X6_movePallet : e_M[79]? = some r_X6_movePallet := by rfl
theorem rC_X6_movePallet : e_tb 872 = some (Cond.code yX6_movePallet cX6_movePallet 4 (none)) := by decide +kernel
theorem m_X6_movePallet {X : e_XT} {d : Nat} {args : List Value} {S : e_SS} {Q : e_Rt → e_SS → Prop} (hlen : (e_slx args).length ≤ 4) (j : s_w X d K_X6_movePallet 0 (e_ent0 args 4) [] S (fun r S' => e_rcr (none) r = true ∧ Q r S')) : s_c X d 79 args S Q := c_of rM_X6_movePallet rC_X6_movePallet rfl (fun _ => by contradiction) hlen j
abbrev r_X6_isBlown : e_MT := ((yX6_isBlown, 10), (0, false), (876, 874, 57, 875))
abbrev K_X6_isBlown : e_KT := (10, false, cX6_isBlown, 1, [])
theorem rM_X6_isBlown : e_M[80]? = some r_X6_isBlown := by rfl
theorem rC_X6_isBlown : e_tb 876 = some (Cond.code yX6_isBlown cX6_isBlown 1 (some FieldType.boolean)) := by decide +kernel
theorem m_X6_isBlown {X : e_XT} {d : Nat} {args : List Value} {S : e_SS} {Q : e_Rt → e_SS → Prop} (hlen : (e_slx args).length ≤ 1) (j : s_w X d K_X6_isBlown 0 (e_ent0 args 1) [] S (fun r S' => e_rcr (some FieldType.boolean) r = true ∧ Q r S')) : s_c X d 80 args S Q := c_of rM_X6_isBlown rC_X6_isBlown rfl (fun _ => by contradiction) hlen j
abbrev r_X6_init : e_MT := ((yX6_init, 10), (0, false), (709, 708, 57, 9999))
abbrev K_X6_init : e_KT := (10, true, cX6_init, 1, [])
theorem rM_X6_init : e_M[81]? = some r_X6_init := by rfl
theorem rC_X6_init : e_tb 709 = some (Cond.code yX6_init cX6_init 1 (none)) := by decide +kernel
theorem m_X6_init {X : e_XT} {d : Nat} {args : List Value} {S : e_SS} {Q : e_Rt → e_SS → Prop} (hlen : (e_slx args).length ≤ 1) (j : s_w X d K_X6_init 0 (e_ent0 args 1) [] S (fun r S' => e_rcr (none) r = true ∧ Q r S')) : s_c X d 81 args S Q := c_of rM_X6_init rC_X6_init rfl (fun _ => by rfl) hlen j
abbrev r_X7_pipeOf : e_MT := ((yX7_pipeOf, 11), (1, false), (528, 526, 56, 527))
abbrev K_X7_pipeOf : e_KT := (11, false, cX7_pipeOf, 2, [])
theorem rM_X7_pipeOf : e_M[82]? = some r_X7_pipeOf := by rfl
theorem rC_X7_pipeOf : e_tb 528 = some (Cond.code yX7_pipeOf cX7_pipeOf 2 (some (FieldType.object "Rankhall$Pipe"))) := by decide +kernel
theorem m_X7_pipeOf {X : e_XT} {d : Nat} {args : List Value} {S : e_SS} {Q : e_Rt → e_SS → Prop} (hlen : (e_slx args).length ≤ 2) (j : s_w X d K_X7_pipeOf 0 (e_ent0 args 2) [] S (fun r S' => e_rcr (some (FieldType.object "Rankhall$Pipe")) r = true ∧ Q r S')) : s_c X d 82 args S Q := c_of rM_X7_pipeOf rC_X7_pipeOf rfl (fun _ => by contradiction) hlen j
abbrev r_X7_init : e_MT := ((yX7_init, 11), (3, false), (697, 696, 56, 9999))
abbrev K_X7_init : e_KT := (11, true, cX7_init, 6, [])
theorem rM_X7_init : e_M[83]? = some r_X7_init := by rfl
theorem rC_X7_init : e_tb 697 = some (Cond.code yX7_init cX7_init 6 (none)) := by decide +kernel
theorem m_X7_init {X : e_XT} {d : Nat} {args : List Value} {S : e_SS} {Q : e_Rt → e_SS → Prop} (hlen : (e_slx args).length ≤ 6) (j : s_w X d K_X7_init 0 (e_ent0 args 6) [] S (fun r S' => e_rcr (none) r = true ∧ Q r S')) : s_c X d 83 args S Q := c_of rM_X7_init rC_X7_init rfl (fun _ => by rfl) hlen j
abbrev r_X7_trials : e_MT := ((yX7_trials, 11), (0, false), (1544, 1542, 56, 1543))
abbrev K_X7_trials : e_KT := (11, false, cX7_trials, 2, [])
theorem rM_X7_trials : e_M[84]? = some r_X7_trials := by rfl
theorem rC_X7_trials : e_tb 1544 = some (Cond.code yX7_trials cX7_trials 2 (some FieldType.int)) := by decide +kernel
theorem m_X7_trials {X : e_XT} {d : Nat} {args : List Value} {S : e_SS} {Q : e_Rt → e_SS → Prop} (hlen : (e_slx args).length ≤ 2) (j : s_w X d K_X7_trials 0 (e_ent0 args 2) [] S (fun r S' => e_rcr (some FieldType.int) r = true ∧ Q r S')) : s_c X d 84 args S Q := c_of rM_X7_trials rC_X7_trials rfl (fun _ => by contradiction) hlen j
abbrev r_X7_hasFault : e_MT := ((yX7_hasFault, 11), (3, true), (1547, 1546, 56, 9999))
abbrev K_X7_hasFault : e_KT := (11, false, cX7_hasFault, 4, [])
theorem rM_X7_hasFault : e_M[85]? = some r_X7_hasFault := by rfl
theorem rC_X7_hasFault : e_tb 1547 = some (Cond.code yX7_hasFault cX7_hasFault 4 (some FieldType.boolean)) := by decide +kernel
theorem m_X7_hasFault {X : e_XT} {d : Nat} {args : List Value} {S : e_SS} {Q : e_Rt → e_SS → Prop} (hlen : (e_slx args).length ≤ 4) (j : s_w X d K_X7_hasFault 0 (e_ent0 args 4) [] S (fun r S' => e_rcr (some FieldType.boolean) r = true ∧ Q r S')) : s_c X d 85 args S Q := c_of rM_X7_hasFault rC_X7_hasFault rfl (fun _ => by contradiction) hlen j
abbrev r_X7_trialsInside : e_MT := ((yX7_trialsInside, 11), (4, true), (1550, 1549, 56, 9999))
abbrev K_X7_trialsInside : e_KT := (11, false, cX7_trialsInside, 6, [])
theorem rM_X7_trialsInside : e_M[86]? = some r_X7_trialsInside := by rfl
theorem rC_X7_trialsInside : e_tb 1550 = some (Cond.code yX7_trialsInside cX7_trialsInside 6 (some FieldType.int)) := by decide +kernel
theorem m_X7_trialsInside {X : e_XT} {d : Nat} {args : List Value} {S : e_SS} {Q : e_Rt → e_SS → Prop} (hlen : (e_slx args).length ≤ 6) (j : s_w X d K_X7_trialsInside 0 (e_ent0 args 6) [] S (fun r S' => e_rcr (some FieldType.int) r = true ∧ Q r S')) : s_c X d 86 args S Q := c_of rM_X7_trialsInside rC_X7_trialsInside rfl (fun _ => by contradiction) hlen j
abbrev r_X8_rankOf : e_MT := ((yX8_rankOf, 12), (1, false), (533, 531, 63, 532))
abbrev K_X8_rankOf : e_KT := (12, false, cX8_rankOf, 2, [])
theorem rM_X8_rankOf : e_M[87]? = some r_X8_rankOf := by rfl
theorem rC_X8_rankOf : e_tb 533 = some (Cond.code yX8_rankOf cX8_rankOf 2 (some FieldType.int)) := by decide +kernel
theorem m_X8_rankOf {X : e_XT} {d : Nat} {args : List Value} {S : e_SS} {Q : e_Rt → e_SS → Prop} (hlen : (e_slx args).length ≤ 2) (j : s_w X d K_X8_rankOf 0 (e_ent0 args 2) [] S (fun r S' => e_rcr (some FieldType.int) r = true ∧ Q r S')) : s_c X d 87 args S Q := c_of rM_X8_rankOf rC_X8_rankOf rfl (fun _ => by contradiction) hlen j
abbrev r_X8_hasRow : e_MT := ((yX8_hasRow, 12), (1, false), (538, 536, 63, 3))
abbrev K_X8_hasRow : e_KT := (12, false, cX8_hasRow, 2, [])
theorem rM_X8_hasRow : e_M[88]? = some r_X8_hasRow := by rfl
theorem rC_X8_hasRow : e_tb 538 = some (Cond.code yX8_hasRow cX8_hasRow 2 (some FieldType.boolean)) := by decide +kernel
theorem m_X8_hasRow {X : e_XT} {d : Nat} {args : List Value} {S : e_SS} {Q : e_Rt → e_SS → Prop} (hlen : (e_slx args).length ≤ 2) (j : s_w X d K_X8_hasRow 0 (e_ent0 args 2) [] S (fun r S' => e_rcr (some FieldType.boolean) r = true ∧ Q r S')) : s_c X d 88 args S Q := c_of rM_X8_hasRow rC_X8_hasRow rfl (fun _ => by contradiction) hlen j
abbrev r_X8_noteOf : e_MT := ((yX8_noteOf, 12), (2, false), (841, 839, 63, 840))
abbrev K_X8_noteOf : e_KT := (12, false, cX8_noteOf, 5, [])
theorem rM_X8_noteOf : e_M[89]? = some r_X8_noteOf := by rfl
theorem rC_X8_noteOf : e_tb 841 = some (Cond.code yX8_noteOf cX8_noteOf 5 (some FieldType.int)) := by decide +kernel
theorem m_X8_noteOf {X : e_XT} {d : Nat} {args : List Value} {S : e_SS} {Q : e_Rt → e_SS → Prop} (hlen : (e_slx args).length ≤ 5) (j : s_w X d K_X8_noteOf 0 (e_ent0 args 5) [] S (fun r S' => e_rcr (some FieldType.int) r = true ∧ Q r S')) : s_c X d 89 args S Q := c_of rM_X8_noteOf rC_X8_noteOf rfl (fun _ => by contradiction) hlen j
abbrev r_X8_placeOf : e_MT := ((yX8_placeOf, 12), (1, false), (845, 844, 63, 10))
abbrev K_X8_placeOf : e_KT := (12, false, cX8_placeOf, 2, [])
theorem rM_X8_placeOf : e_M[90]? = some r_X8_placeOf := by rfl
theorem rC_X8_placeOf : e_tb 845 = some (Cond.code yX8_placeOf cX8_placeOf 2 (some FieldType.int)) := by decide +kernel
theorem m_X8_placeOf {X : e_XT} {d : Nat} {args : List Value} {S : e_SS} {Q : e_Rt → e_SS → Prop} (hlen : (e_slx args).length ≤ 2) (j : s_w X d K_X8_placeOf 0 (e_ent0 args 2) [] S (fun r S' => e_rcr (some FieldType.int) r = true ∧ Q r S')) : s_c X d 90 args S Q := c_of rM_X8_placeOf rC_X8_placeOf rfl (fun _ => by contradiction) hlen j
abbrev r_X8_keyOf : e_MT := ((yX8_keyOf, 12), (2, false), (542, 540, 63, 541))
abbrev K_X8_keyOf : e_KT := (12, false, cX8_keyOf, 5, [])
theorem rM_X8_keyOf : e_M[91]? = some r_X8_keyOf := by rfl
theorem rC_X8_keyOf : e_tb 542 = some (Cond.code yX8_keyOf cX8_keyOf 5 (some FieldType.int)) := by decide +kernel
theorem m_X8_keyOf {X : e_XT} {d : Nat} {args : List Value} {S : e_SS} {Q : e_Rt → e_SS → Prop} (hlen : (e_slx args).length ≤ 5) (j : s_w X d K_X8_keyOf 0 (e_ent0 args 5) [] S (fun r S' => e_rcr (some FieldType.int) r = true ∧ Q r S')) : s_c X d 91 args S Q := c_of rM_X8_keyOf rC_X8_keyOf rfl (fun _ => by contradiction) hlen j
abbrev r_X8_init : e_MT := ((yX8_init, 12), (0, false), (947, 946, 63, 9999))
abbrev K_X8_init : e_KT := (12, true, cX8_init, 2, [])
theorem rM_X8_init : e_M[92]? = some r_X8_init := by rfl
theorem rC_X8_init : e_tb 947 = some (Cond.code yX8_init cX8_init 2 (none)) := by decide +kernel
theorem m_X8_init {X : e_XT} {d : Nat} {args : List Value} {S : e_SS} {Q : e_Rt → e_SS → Prop} (hlen : (e_slx args).length ≤ 2) (j : s_w X d K_X8_init 0 (e_ent0 args 2) [] S (fun r S' => e_rcr (none) r = true ∧ Q r S')) : s_c X d 92 args S Q := c_of rM_X8_init rC_X8_init rfl (fun _ => by rfl) hlen j
abbrev r_X8_addRow : e_MT := ((yX8_addRow, 12), (4, false), (1027, 1025, 63, 1026))
abbrev K_X8_addRow : e_KT := (12, false, cX8_addRow, 5, [])
theorem rM_X8_addRow : e_M[93]? = some r_X8_addRow := by rfl
theorem rC_X8_addRow : e_tb 1027 = some (Cond.code yX8_addRow cX8_addRow 5 (some FieldType.boolean)) := by decide +kernel
theorem m_X8_addRow {X : e_XT} {d : Nat} {args : List Value} {S : e_SS} {Q : e_Rt → e_SS → Prop} (hlen : (e_slx args).length ≤ 5) (j : s_w X d K_X8_addRow 0 (e_ent0 args 5) [] S (fun r S' => e_rcr (some FieldType.boolean) r = true ∧ Q r S')) : s_c X d 93 args S Q := c_of rM_X8_addRow rC_X8_addRow rfl (fun _ => by contradiction) hlen j
abbrev r_X8_changePlaces : e_MT := ((yX8_changePlaces, 12), (2, false), (1747, 1745, 63, 1746))
abbrev K_X8_changePlaces : e_KT := (12, false, cX8_changePlaces, 5, [])
theorem rM_X8_changePlaces : e_M[94]? = some r_X8_changePlaces := by rfl
theorem rC_X8_changePlaces : e_tb 1747 = some (Cond.code yX8_changePlaces cX8_changePlaces 5 (none)) := by decide +kernel
theorem m_X8_changePlaces {X : e_XT} {d : Nat} {args : List Value} {S : e_SS} {Q : e_Rt → e_SS → Prop} (hlen : (e_slx args).length ≤ 5) (j : s_w X d K_X8_changePlaces 0 (e_ent0 args 5) [] S (fun r S' => e_rcr (none) r = true ∧ Q r S')) : s_c X d 94 args S Q := c_of rM_X8_changePlaces rC_X8_changePlaces rfl (fun _ => by contradiction) hlen j
abbrev r_X8_putPlace : e_MT := ((yX8_putPlace, 12), (2, false), (1751, 1750, 63, 33))
abbrev K_X8_putPlace : e_KT := (12, false, cX8_putPlace, 3, [])
theorem rM_X8_putPlace : e_M[95]? = some r_X8_putPlace := by rfl
theorem rC_X8_putPlace : e_tb 1751 = some (Cond.code yX8_putPlace cX8_putPlace 3 (none)) := by decide +kernel
theorem m_X8_putPlace {X : e_XT} {d : Nat} {args : List Value} {S : e_SS} {Q : e_Rt → e_SS → Prop} (hlen : (e_slx args).length ≤ 3) (j : s_w X d K_X8_putPlace 0 (e_ent0 args 3) [] S (fun r S' => e_rcr (none) r = true ∧ Q r S')) : s_c X d 95 args S Q := c_of rM_X8_putPlace rC_X8_putPlace rfl (fun _ => by contradiction) hlen j
abbrev r_X8_displaced : e_MT := ((yX8_displaced, 12), (0, false), (1755, 1753, 63, 1754))
abbrev K_X8_displaced : e_KT := (12, false, cX8_displaced, 3, [])
theorem rM_X8_displaced : e_M[96]? = some r_X8_displaced := by rfl
theorem rC_X8_displaced : e_tb 1755 = some (Cond.code yX8_displaced cX8_displaced 3 (some FieldType.int)) := by decide +kernel
theorem m_X8_displaced {X : e_XT} {d : Nat} {args : List Value} {S : e_SS} {Q : e_Rt → e_SS → Prop} (hlen : (e_slx args).length ≤ 3) (j : s_w X d K_X8_displaced 0 (e_ent0 args 3) [] S (fun r S' => e_rcr (some FieldType.int) r = true ∧ Q r S')) : s_c X d 96 args S Q := c_of rM_X8_displaced rC_X8_displaced rfl (fun _ => by contradiction) hlen j
abbrev r_X9_init : e_MT := ((yX9_init, 13), (0, false), (310, 309, 48, 9999))
abbrev K_X9_init : e_KT := (13, true, cX9_init, 1, [])
theorem rM_X9_init : e_M[97]? = some r_X9_init := by rfl
theorem rC_X9_init : e_tb 310 = some (Cond.code yX9_init cX9_init 1 (none)) := by decide +kernel
theorem m_X9_init {X : e_XT} {d : Nat} {args : List Value} {S : e_SS} {Q : e_Rt → e_SS → Prop} (hlen : (e_slx args).length ≤ 1) (j : s_w X d K_X9_init 0 (e_ent0 args 1) [] S (fun r S' => e_rcr (none) r = true ∧ Q r S')) : s_c X d 97 args S Q := c_of rM_X9_init rC_X9_init rfl (fun _ => by rfl) hlen j
abbrev r_X9_keepPipe : e_MT := ((yX9_keepPipe, 13), (4, false), (853, 851, 48, 852))
abbrev K_X9_keepPipe : e_KT := (13, false, cX9_keepPipe, 5, [])
theorem rM_X9_keepPipe : e_M[98]? = some r_X9_keepPipe := by rfl
theorem rC_X9_keepPipe : e_tb 853 = some (Cond.code yX9_keepPipe cX9_keepPipe 5 (none)) := by decide +kernel
theorem m_X9_keepPipe {X : e_XT} {d : Nat} {args : List Value} {S : e_SS} {Q : e_Rt → e_SS → Prop} (hlen : (e_slx args).length ≤ 5) (j : s_w X d K_X9_keepPipe 0 (e_ent0 args 5) [] S (fun r S' => e_rcr (none) r = true ∧ Q r S')) : s_c X d 98 args S Q := c_of rM_X9_keepPipe rC_X9_keepPipe rfl (fun _ => by contradiction) hlen j
abbrev r_X9_keepEntry : e_MT := ((yX9_keepEntry, 13), (3, false), (857, 856, 48, 12))
abbrev K_X9_keepEntry : e_KT := (13, false, cX9_keepEntry, 4, [])
theorem rM_X9_keepEntry : e_M[99]? = some r_X9_keepEntry := by rfl
theorem rC_X9_keepEntry : e_tb 857 = some (Cond.code yX9_keepEntry cX9_keepEntry 4 (none)) := by decide +kernel
theorem m_X9_keepEntry {X : e_XT} {d : Nat} {args : List Value} {S : e_SS} {Q : e_Rt → e_SS → Prop} (hlen : (e_slx args).length ≤ 4) (j : s_w X d K_X9_keepEntry 0 (e_ent0 args 4) [] S (fun r S' => e_rcr (none) r = true ∧ Q r S')) : s_c X d 99 args S Q := c_of rM_X9_keepEntry rC_X9_keepEntry rfl (fun _ => by contradiction) hlen j
abbrev r_X9_keepKey : e_MT := ((yX9_keepKey, 13), (4, false), (1099, 1097, 48, 1098))
abbrev K_X9_keepKey : e_KT := (13, false, cX9_keepKey, 5, [])
theorem rM_X9_keepKey : e_M[100]? = some r_X9_keepKey := by rfl
theorem rC_X9_keepKey : e_tb 1099 = some (Cond.code yX9_keepKey cX9_keepKey 5 (none)) := by decide +kernel
theorem m_X9_keepKey {X : e_XT} {d : Nat} {args : List Value} {S : e_SS} {Q : e_Rt → e_SS → Prop} (hlen : (e_slx args).length ≤ 5) (j : s_w X d K_X9_keepKey 0 (e_ent0 args 5) [] S (fun r S' => e_rcr (none) r = true ∧ Q r S')) : s_c X d 100 args S Q := c_of rM_X9_keepKey rC_X9_keepKey rfl (fun _ => by contradiction) hlen j
abbrev r_X9_start : e_MT := ((yX9_start, 13), (2, false), (1478, 1476, 48, 1477))
abbrev K_X9_start : e_KT := (13, false, cX9_start, 3, [])
theorem rM_X9_start : e_M[101]? = some r_X9_start := by rfl
theorem rC_X9_start : e_tb 1478 = some (Cond.code yX9_start cX9_start 3 (none)) := by decide +kernel
theorem m_X9_start {X : e_XT} {d : Nat} {args : List Value} {S : e_SS} {Q : e_Rt → e_SS → Prop} (hlen : (e_slx args).length ≤ 3) (j : s_w X d K_X9_start 0 (e_ent0 args 3) [] S (fun r S' => e_rcr (none) r = true ∧ Q r S')) : s_c X d 101 args S Q := c_of rM_X9_start rC_X9_start rfl (fun _ => by contradiction) hlen j
abbrev r_X9_ticksBefore : e_MT := ((yX9_ticksBefore, 13), (1, false), (1494, 1492, 48, 1493))
abbrev K_X9_ticksBefore : e_KT := (13, false, cX9_ticksBefore, 2, [])
theorem rM_X9_ticksBefore : e_M[102]? = some r_X9_ticksBefore := by rfl
theorem rC_X9_ticksBefore : e_tb 1494 = some (Cond.code yX9_ticksBefore cX9_ticksBefore 2 (some FieldType.int)) := by decide +kernel
theorem m_X9_ticksBefore {X : e_XT} {d : Nat} {args : List Value} {S : e_SS} {Q : e_Rt → e_SS → Prop} (hlen : (e_slx args).length ≤ 2) (j : s_w X d K_X9_ticksBefore 0 (e_ent0 args 2) [] S (fun r S' => e_rcr (some FieldType.int) r = true ∧ Q r S')) : s_c X d 102 args S Q := c_of rM_X9_ticksBefore rC_X9_ticksBefore rfl (fun _ => by contradiction) hlen j
abbrev r_X9_entryAt : e_MT := ((yX9_entryAt, 13), (1, false), (1498, 1497, 48, 31))
abbrev K_X9_entryAt : e_KT := (13, false, cX9_entryAt, 2, [])
theorem rM_X9_entryAt : e_M[103]? = some r_X9_entryAt := by rfl
theorem rC_X9_entryAt : e_tb 1498 = some (Cond.code yX9_entryAt cX9_entryAt 2 (some FieldType.int)) := by decide +kernel
theorem m_X9_entryAt {X : e_XT} {d : Nat} {args : List Value} {S : e_SS} {Q : e_Rt → e_SS → Prop} (hlen : (e_slx args).length ≤ 2) (j : s_w X d K_X9_entryAt 0 (e_ent0 args 2) [] S (fun r S' => e_rcr (some FieldType.int) r = true ∧ Q r S')) : s_c X d 103 args S Q := c_of rM_X9_entryAt rC_X9_entryAt rfl (fun _ => by contradiction) hlen j
abbrev r_X9_highCodeAt : e_MT := ((yX9_highCodeAt, 13), (1, false), (1502, 1500, 48, 1501))
abbrev K_X9_highCodeAt : e_KT := (13, false, cX9_highCodeAt, 2, [])
theorem rM_X9_highCodeAt : e_M[104]? = some r_X9_highCodeAt := by rfl
theorem rC_X9_highCodeAt : e_tb 1502 = some (Cond.code yX9_highCodeAt cX9_highCodeAt 2 (some FieldType.int)) := by decide +kernel
theorem m_X9_highCodeAt {X : e_XT} {d : Nat} {args : List Value} {S : e_SS} {Q : e_Rt → e_SS → Prop} (hlen : (e_slx args).length ≤ 2) (j : s_w X d K_X9_highCodeAt 0 (e_ent0 args 2) [] S (fun r S' => e_rcr (some FieldType.int) r = true ∧ Q r S')) : s_c X d 104 args S Q := c_of rM_X9_highCodeAt rC_X9_highCodeAt rfl (fun _ => by contradiction) hlen j
abbrev r_X9_lowCodeAt : e_MT := ((yX9_lowCodeAt, 13), (1, false), (1506, 1504, 48, 1505))
abbrev K_X9_lowCodeAt : e_KT := (13, false, cX9_lowCodeAt, 2, [])
theorem rM_X9_lowCodeAt : e_M[105]? = some r_X9_lowCodeAt := by rfl
theorem rC_X9_lowCodeAt : e_tb 1506 = some (Cond.code yX9_lowCodeAt cX9_lowCodeAt 2 (some FieldType.int)) := by decide +kernel
theorem m_X9_lowCodeAt {X : e_XT} {d : Nat} {args : List Value} {S : e_SS} {Q : e_Rt → e_SS → Prop} (hlen : (e_slx args).length ≤ 2) (j : s_w X d K_X9_lowCodeAt 0 (e_ent0 args 2) [] S (fun r S' => e_rcr (some FieldType.int) r = true ∧ Q r S')) : s_c X d 105 args S Q := c_of rM_X9_lowCodeAt rC_X9_lowCodeAt rfl (fun _ => by contradiction) hlen j
abbrev r_X9_isOnAt : e_MT := ((yX9_isOnAt, 13), (1, false), (1510, 1508, 48, 1509))
abbrev K_X9_isOnAt : e_KT := (13, false, cX9_isOnAt, 2, [])
theorem rM_X9_isOnAt : e_M[106]? = some r_X9_isOnAt := by rfl
theorem rC_X9_isOnAt : e_tb 1510 = some (Cond.code yX9_isOnAt cX9_isOnAt 2 (some FieldType.boolean)) := by decide +kernel
theorem m_X9_isOnAt {X : e_XT} {d : Nat} {args : List Value} {S : e_SS} {Q : e_Rt → e_SS → Prop} (hlen : (e_slx args).length ≤ 2) (j : s_w X d K_X9_isOnAt 0 (e_ent0 args 2) [] S (fun r S' => e_rcr (some FieldType.boolean) r = true ∧ Q r S')) : s_c X d 106 args S Q := c_of rM_X9_isOnAt rC_X9_isOnAt rfl (fun _ => by contradiction) hlen j
abbrev r_X10_init : e_MT := ((yX10_init, 14), (0, false), (82, 81, 36, 9999))
abbrev K_X10_init : e_KT := (14, true, cX10_init, 1, [])
theorem rM_X10_init : e_M[107]? = some r_X10_init := by rfl
theorem rC_X10_init : e_tb 82 = some (Cond.code yX10_init cX10_init 1 (none)) := by decide +kernel
theorem m_X10_init {X : e_XT} {d : Nat} {args : List Value} {S : e_SS} {Q : e_Rt → e_SS → Prop} (hlen : (e_slx args).length ≤ 1) (j : s_w X d K_X10_init 0 (e_ent0 args 1) [] S (fun r S' => e_rcr (none) r = true ∧ Q r S')) : s_c X d 107 args S Q := c_of rM_X10_init rC_X10_init rfl (fun _ => by rfl) hlen j
abbrev r_X10_settle : e_MT := ((yX10_settle, 14), (0, false), (792, 790, 36, 791))
abbrev K_X10_settle : e_KT := (14, false, cX10_settle, 1, [])
theorem rM_X10_settle : e_M[108]? = some r_X10_settle := by rfl
theorem rC_X10_settle : e_tb 792 = some (Cond.code yX10_settle cX10_settle 1 (none)) := by decide +kernel
theorem m_X10_settle {X : e_XT} {d : Nat} {args : List Value} {S : e_SS} {Q : e_Rt → e_SS → Prop} (hlen : (e_slx args).length ≤ 1) (j : s_w X d K_X10_settle 0 (e_ent0 args 1) [] S (fun r S' => e_rcr (none) r = true ∧ Q r S')) : s_c X d 108 args S Q := c_of rM_X10_settle rC_X10_settle rfl (fun _ => by contradiction) hlen j
abbrev r_X10_forgetReasons : e_MT := ((yX10_forgetReasons, 14), (0, false), (816, 815, 36, 6))
abbrev K_X10_forgetReasons : e_KT := (14, false, cX10_forgetReasons, 6, [])
theorem rM_X10_forgetReasons : e_M[109]? = some r_X10_forgetReasons := by rfl
theorem rC_X10_forgetReasons : e_tb 816 = some (Cond.code yX10_forgetReasons cX10_forgetReasons 6 (none)) := by decide +kernel
theorem m_X10_forgetReasons {X : e_XT} {d : Nat} {args : List Value} {S : e_SS} {Q : e_Rt → e_SS → Prop} (hlen : (e_slx args).length ≤ 6) (j : s_w X d K_X10_forgetReasons 0 (e_ent0 args 6) [] S (fun r S' => e_rcr (none) r = true ∧ Q r S')) : s_c X d 109 args S Q := c_of rM_X10_forgetReasons rC_X10_forgetReasons rfl (fun _ => by contradiction) hlen j
abbrev r_X10_findWays : e_MT := ((yX10_findWays, 14), (0, false), (824, 823, 36, 7))
abbrev K_X10_findWays : e_KT := (14, false, cX10_findWays, 6, [])
theorem rM_X10_findWays : e_M[110]? = some r_X10_findWays := by rfl
theorem rC_X10_findWays : e_tb 824 = some (Cond.code yX10_findWays cX10_findWays 6 (none)) := by decide +kernel
theorem m_X10_findWays {X : e_XT} {d : Nat} {args : List Value} {S : e_SS} {Q : e_Rt → e_SS → Prop} (hlen : (e_slx args).length ≤ 6) (j : s_w X d K_X10_findWays 0 (e_ent0 args 6) [] S (fun r S' => e_rcr (none) r = true ∧ Q r S')) : s_c X d 110 args S Q := c_of rM_X10_findWays rC_X10_findWays rfl (fun _ => by contradiction) hlen j
abbrev r_X10_findReasons : e_MT := ((yX10_findReasons, 14), (0, false), (830, 829, 36, 8))
abbrev K_X10_findReasons : e_KT := (14, false, cX10_findReasons, 3, [])
theorem rM_X10_findReasons : e_M[111]? = some r_X10_findReasons := by rfl
theorem rC_X10_findReasons : e_tb 830 = some (Cond.code yX10_findReasons cX10_findReasons 3 (none)) := by decide +kernel
theorem m_X10_findReasons {X : e_XT} {d : Nat} {args : List Value} {S : e_SS} {Q : e_Rt → e_SS → Prop} (hlen : (e_slx args).length ≤ 3) (j : s_w X d K_X10_findReasons 0 (e_ent0 args 3) [] S (fun r S' => e_rcr (none) r = true ∧ Q r S')) : s_c X d 111 args S Q := c_of rM_X10_findReasons rC_X10_findReasons rfl (fun _ => by contradiction) hlen j
abbrev r_X10_addReasons : e_MT := ((yX10_addReasons, 14), (2, false), (834, 833, 36, 9))
abbrev K_X10_addReasons : e_KT := (14, false, cX10_addReasons, 8, [])
theorem rM_X10_addReasons : e_M[112]? = some r_X10_addReasons := by rfl
theorem rC_X10_addReasons : e_tb 834 = some (Cond.code yX10_addReasons cX10_addReasons 8 (none)) := by decide +kernel
theorem m_X10_addReasons {X : e_XT} {d : Nat} {args : List Value} {S : e_SS} {Q : e_Rt → e_SS → Prop} (hlen : (e_slx args).length ≤ 8) (j : s_w X d K_X10_addReasons 0 (e_ent0 args 8) [] S (fun r S' => e_rcr (none) r = true ∧ Q r S')) : s_c X d 112 args S Q := c_of rM_X10_addReasons rC_X10_addReasons rfl (fun _ => by contradiction) hlen j
abbrev r_X10_pipeAt : e_MT := ((yX10_pipeAt, 14), (2, false), (524, 522, 36, 523))
abbrev K_X10_pipeAt : e_KT := (14, false, cX10_pipeAt, 4, [])
theorem rM_X10_pipeAt : e_M[113]? = some r_X10_pipeAt := by rfl
theorem rC_X10_pipeAt : e_tb 524 = some (Cond.code yX10_pipeAt cX10_pipeAt 4 (some (FieldType.object "Rankhall$Pipe"))) := by decide +kernel
theorem m_X10_pipeAt {X : e_XT} {d : Nat} {args : List Value} {S : e_SS} {Q : e_Rt → e_SS → Prop} (hlen : (e_slx args).length ≤ 4) (j : s_w X d K_X10_pipeAt 0 (e_ent0 args 4) [] S (fun r S' => e_rcr (some (FieldType.object "Rankhall$Pipe")) r = true ∧ Q r S')) : s_c X d 113 args S Q := c_of rM_X10_pipeAt rC_X10_pipeAt rfl (fun _ => by contradiction) hlen j
abbrev r_X10_movePallets : e_MT := ((yX10_movePallets, 14), (0, false), (849, 848, 36, 11))
abbrev K_X10_movePallets : e_KT := (14, false, cX10_movePallets, 6, [])
theorem rM_X10_movePallets : e_M[114]? = some r_X10_movePallets := by rfl
theorem rC_X10_movePallets : e_tb 849 = some (Cond.code yX10_movePallets cX10_movePallets 6 (none)) := by decide +kernel
theorem m_X10_movePallets {X : e_XT} {d : Nat} {args : List Value} {S : e_SS} {Q : e_Rt → e_SS → Prop} (hlen : (e_slx args).length ≤ 6) (j : s_w X d K_X10_movePallets 0 (e_ent0 args 6) [] S (fun r S' => e_rcr (none) r = true ∧ Q r S')) : s_c X d 114 args S Q := c_of rM_X10_movePallets rC_X10_movePallets rfl (fun _ => by contradiction) hlen j
abbrev r_X10_findWinds : e_MT := ((yX10_findWinds, 14), (0, false), (880, 879, 36, 13))
abbrev K_X10_findWinds : e_KT := (14, false, cX10_findWinds, 4, [])
theorem rM_X10_findWinds : e_M[115]? = some r_X10_findWinds := by rfl
theorem rC_X10_findWinds : e_tb 880 = some (Cond.code yX10_findWinds cX10_findWinds 4 (none)) := by decide +kernel
theorem m_X10_findWinds {X : e_XT} {d : Nat} {args : List Value} {S : e_SS} {Q : e_Rt → e_SS → Prop} (hlen : (e_slx args).length ≤ 4) (j : s_w X d K_X10_findWinds 0 (e_ent0 args 4) [] S (fun r S' => e_rcr (none) r = true ∧ Q r S')) : s_c X d 115 args S Q := c_of rM_X10_findWinds rC_X10_findWinds rfl (fun _ => by contradiction) hlen j
abbrev r_X10_findSpeech : e_MT := ((yX10_findSpeech, 14), (0, false), (889, 888, 36, 14))
abbrev K_X10_findSpeech : e_KT := (14, false, cX10_findSpeech, 9, [])
theorem rM_X10_findSpeech : e_M[116]? = some r_X10_findSpeech := by rfl
theorem rC_X10_findSpeech : e_tb 889 = some (Cond.code yX10_findSpeech cX10_findSpeech 9 (none)) := by decide +kernel
theorem m_X10_findSpeech {X : e_XT} {d : Nat} {args : List Value} {S : e_SS} {Q : e_Rt → e_SS → Prop} (hlen : (e_slx args).length ≤ 9) (j : s_w X d K_X10_findSpeech 0 (e_ent0 args 9) [] S (fun r S' => e_rcr (none) r = true ∧ Q r S')) : s_c X d 116 args S Q := c_of rM_X10_findSpeech rC_X10_findSpeech rfl (fun _ => by contradiction) hlen j
abbrev r_X10_releaseAll : e_MT := ((yX10_releaseAll, 14), (0, false), (1128, 1126, 36, 1127))
abbrev K_X10_releaseAll : e_KT := (14, false, cX10_releaseAll, 4, [])
theorem rM_X10_releaseAll : e_M[117]? = some r_X10_releaseAll := by rfl
theorem rC_X10_releaseAll : e_tb 1128 = some (Cond.code yX10_releaseAll cX10_releaseAll 4 (some FieldType.int)) := by decide +kernel
theorem m_X10_releaseAll {X : e_XT} {d : Nat} {args : List Value} {S : e_SS} {Q : e_Rt → e_SS → Prop} (hlen : (e_slx args).length ≤ 4) (j : s_w X d K_X10_releaseAll 0 (e_ent0 args 4) [] S (fun r S' => e_rcr (some FieldType.int) r = true ∧ Q r S')) : s_c X d 117 args S Q := c_of rM_X10_releaseAll rC_X10_releaseAll rfl (fun _ => by contradiction) hlen j
abbrev r_X10_pressKey : e_MT := ((yX10_pressKey, 14), (3, false), (1085, 1083, 36, 1084))
abbrev K_X10_pressKey : e_KT := (14, false, cX10_pressKey, 4, [])
theorem rM_X10_pressKey : e_M[118]? = some r_X10_pressKey := by rfl
theorem rC_X10_pressKey : e_tb 1085 = some (Cond.code yX10_pressKey cX10_pressKey 4 (none)) := by decide +kernel
theorem m_X10_pressKey {X : e_XT} {d : Nat} {args : List Value} {S : e_SS} {Q : e_Rt → e_SS → Prop} (hlen : (e_slx args).length ≤ 4) (j : s_w X d K_X10_pressKey 0 (e_ent0 args 4) [] S (fun r S' => e_rcr (none) r = true ∧ Q r S')) : s_c X d 118 args S Q := c_of rM_X10_pressKey rC_X10_pressKey rfl (fun _ => by contradiction) hlen j
abbrev r_X10_allLoudness : e_MT := ((yX10_allLoudness, 14), (0, false), (1711, 1709, 36, 1710))
abbrev K_X10_allLoudness : e_KT := (14, false, cX10_allLoudness, 9, [])
theorem rM_X10_allLoudness : e_M[119]? = some r_X10_allLoudness := by rfl
theorem rC_X10_allLoudness : e_tb 1711 = some (Cond.code yX10_allLoudness cX10_allLoudness 9 (some FieldType.int)) := by decide +kernel
theorem m_X10_allLoudness {X : e_XT} {d : Nat} {args : List Value} {S : e_SS} {Q : e_Rt → e_SS → Prop} (hlen : (e_slx args).length ≤ 9) (j : s_w X d K_X10_allLoudness 0 (e_ent0 args 9) [] S (fun r S' => e_rcr (some FieldType.int) r = true ∧ Q r S')) : s_c X d 119 args S Q := c_of rM_X10_allLoudness rC_X10_allLoudness rfl (fun _ => by contradiction) hlen j
abbrev r_X10_isConsistent : e_MT := ((yX10_isConsistent, 14), (0, false), (493, 491, 36, 492))
abbrev K_X10_isConsistent : e_KT := (14, false, cX10_isConsistent, 6, [])
theorem rM_X10_isConsistent : e_M[120]? = some r_X10_isConsistent := by rfl
theorem rC_X10_isConsistent : e_tb 493 = some (Cond.code yX10_isConsistent cX10_isConsistent 6 (some FieldType.boolean)) := by decide +kernel
theorem m_X10_isConsistent {X : e_XT} {d : Nat} {args : List Value} {S : e_SS} {Q : e_Rt → e_SS → Prop} (hlen : (e_slx args).length ≤ 6) (j : s_w X d K_X10_isConsistent 0 (e_ent0 args 6) [] S (fun r S' => e_rcr (some FieldType.boolean) r = true ∧ Q r S')) : s_c X d 120 args S Q := c_of rM_X10_isConsistent rC_X10_isConsistent rfl (fun _ => by contradiction) hlen j
abbrev r_X10_reasonsAlone : e_MT := ((yX10_reasonsAlone, 14), (2, false), (520, 518, 36, 519))
abbrev K_X10_reasonsAlone : e_KT := (14, false, cX10_reasonsAlone, 10, [])
theorem rM_X10_reasonsAlone : e_M[121]? = some r_X10_reasonsAlone := by rfl
theorem rC_X10_reasonsAlone : e_tb 520 = some (Cond.code yX10_reasonsAlone cX10_reasonsAlone 10 (some FieldType.int)) := by decide +kernel
theorem m_X10_reasonsAlone {X : e_XT} {d : Nat} {args : List Value} {S : e_SS} {Q : e_Rt → e_SS → Prop} (hlen : (e_slx args).length ≤ 10) (j : s_w X d K_X10_reasonsAlone 0 (e_ent0 args 10) [] S (fun r S' => e_rcr (some FieldType.int) r = true ∧ Q r S')) : s_c X d 121 args S Q := c_of rM_X10_reasonsAlone rC_X10_reasonsAlone rfl (fun _ => by contradiction) hlen j
abbrev r_X10_rankAt : e_MT := ((yX10_rankAt, 14), (1, false), (1003, 1001, 36, 1002))
abbrev K_X10_rankAt : e_KT := (14, false, cX10_rankAt, 2, [])
theorem rM_X10_rankAt : e_M[122]? = some r_X10_rankAt := by rfl
theorem rC_X10_rankAt : e_tb 1003 = some (Cond.code yX10_rankAt cX10_rankAt 2 (some (FieldType.object "Rankhall$Rank"))) := by decide +kernel
theorem m_X10_rankAt {X : e_XT} {d : Nat} {args : List Value} {S : e_SS} {Q : e_Rt → e_SS → Prop} (hlen : (e_slx args).length ≤ 2) (j : s_w X d K_X10_rankAt 0 (e_ent0 args 2) [] S (fun r S' => e_rcr (some (FieldType.object "Rankhall$Rank")) r = true ∧ Q r S')) : s_c X d 122 args S Q := c_of rM_X10_rankAt rC_X10_rankAt rfl (fun _ => by contradiction) hlen j
abbrev r_X10_passTicks : e_MT := ((yX10_passTicks, 14), (1, false), (1056, 1054, 36, 1055))
abbrev K_X10_passTicks : e_KT := (14, false, cX10_passTicks, 3, [])
theorem rM_X10_passTicks : e_M[123]? = some r_X10_passTicks := by rfl
theorem rC_X10_passTicks : e_tb 1056 = some (Cond.code yX10_passTicks cX10_passTicks 3 (none)) := by decide +kernel
theorem m_X10_passTicks {X : e_XT} {d : Nat} {args : List Value} {S : e_SS} {Q : e_Rt → e_SS → Prop} (hlen : (e_slx args).length ≤ 3) (j : s_w X d K_X10_passTicks 0 (e_ent0 args 3) [] S (fun r S' => e_rcr (none) r = true ∧ Q r S')) : s_c X d 123 args S Q := c_of rM_X10_passTicks rC_X10_passTicks rfl (fun _ => by contradiction) hlen j
abbrev r_X10_passIdly : e_MT := ((yX10_passIdly, 14), (0, false), (1061, 1060, 36, 19))
abbrev K_X10_passIdly : e_KT := (14, false, cX10_passIdly, 2, [])
theorem rM_X10_passIdly : e_M[124]? = some r_X10_passIdly := by rfl
theorem rC_X10_passIdly : e_tb 1061 = some (Cond.code yX10_passIdly cX10_passIdly 2 (none)) := by decide +kernel
theorem m_X10_passIdly {X : e_XT} {d : Nat} {args : List Value} {S : e_SS} {Q : e_Rt → e_SS → Prop} (hlen : (e_slx args).length ≤ 2) (j : s_w X d K_X10_passIdly 0 (e_ent0 args 2) [] S (fun r S' => e_rcr (none) r = true ∧ Q r S')) : s_c X d 124 args S Q := c_of rM_X10_passIdly rC_X10_passIdly rfl (fun _ => by contradiction) hlen j
abbrev r_X10_windless : e_MT := ((yX10_windless, 14), (0, false), (1065, 1064, 36, 20))
abbrev K_X10_windless : e_KT := (14, false, cX10_windless, 3, [])
theorem rM_X10_windless : e_M[125]? = some r_X10_windless := by rfl
theorem rC_X10_windless : e_tb 1065 = some (Cond.code yX10_windless cX10_windless 3 (some FieldType.int)) := by decide +kernel
theorem m_X10_windless {X : e_XT} {d : Nat} {args : List Value} {S : e_SS} {Q : e_Rt → e_SS → Prop} (hlen : (e_slx args).length ≤ 3) (j : s_w X d K_X10_windless 0 (e_ent0 args 3) [] S (fun r S' => e_rcr (some FieldType.int) r = true ∧ Q r S')) : s_c X d 125 args S Q := c_of rM_X10_windless rC_X10_windless rfl (fun _ => by contradiction) hlen j
abbrev r_X10_pitchOf : e_MT := ((yX10_pitchOf, 14), (2, false), (1582, 1580, 36, 1581))
abbrev K_X10_pitchOf : e_KT := (14, false, cX10_pitchOf, 6, [])
theorem rM_X10_pitchOf : e_M[126]? = some r_X10_pitchOf := by rfl
theorem rC_X10_pitchOf : e_tb 1582 = some (Cond.code yX10_pitchOf cX10_pitchOf 6 (some FieldType.int)) := by decide +kernel
theorem m_X10_pitchOf {X : e_XT} {d : Nat} {args : List Value} {S : e_SS} {Q : e_Rt → e_SS → Prop} (hlen : (e_slx args).length ≤ 6) (j : s_w X d K_X10_pitchOf 0 (e_ent0 args 6) [] S (fun r S' => e_rcr (some FieldType.int) r = true ∧ Q r S')) : s_c X d 126 args S Q := c_of rM_X10_pitchOf rC_X10_pitchOf rfl (fun _ => by contradiction) hlen j
abbrev r_X10_hold : e_MT := ((yX10_hold, 14), (3, false), (1514, 1512, 36, 1513))
abbrev K_X10_hold : e_KT := (14, false, cX10_hold, 5, [])
theorem rM_X10_hold : e_M[127]? = some r_X10_hold := by rfl
theorem rC_X10_hold : e_tb 1514 = some (Cond.code yX10_hold cX10_hold 5 (none)) := by decide +kernel
theorem m_X10_hold {X : e_XT} {d : Nat} {args : List Value} {S : e_SS} {Q : e_Rt → e_SS → Prop} (hlen : (e_slx args).length ≤ 5) (j : s_w X d K_X10_hold 0 (e_ent0 args 5) [] S (fun r S' => e_rcr (none) r = true ∧ Q r S')) : s_c X d 127 args S Q := c_of rM_X10_hold rC_X10_hold rfl (fun _ => by contradiction) hlen j
abbrev r_X10_holdNone : e_MT := ((yX10_holdNone, 14), (0, false), (1518, 1516, 36, 1517))
abbrev K_X10_holdNone : e_KT := (14, false, cX10_holdNone, 6, [])
theorem rM_X10_holdNone : e_M[128]? = some r_X10_holdNone := by rfl
theorem rC_X10_holdNone : e_tb 1518 = some (Cond.code yX10_holdNone cX10_holdNone 6 (none)) := by decide +kernel
theorem m_X10_holdNone {X : e_XT} {d : Nat} {args : List Value} {S : e_SS} {Q : e_Rt → e_SS → Prop} (hlen : (e_slx args).length ≤ 6) (j : s_w X d K_X10_holdNone 0 (e_ent0 args 6) [] S (fun r S' => e_rcr (none) r = true ∧ Q r S')) : s_c X d 128 args S Q := c_of rM_X10_holdNone rC_X10_holdNone rfl (fun _ => by contradiction) hlen j
abbrev r_X10_pressChord : e_MT := ((yX10_pressChord, 14), (1, false), (1460, 1458, 36, 1459))
abbrev K_X10_pressChord : e_KT := (14, false, cX10_pressChord, 4, [])
theorem rM_X10_pressChord : e_M[129]? = some r_X10_pressChord := by rfl
theorem rC_X10_pressChord : e_tb 1460 = some (Cond.code yX10_pressChord cX10_pressChord 4 (none)) := by decide +kernel
theorem m_X10_pressChord {X : e_XT} {d : Nat} {args : List Value} {S : e_SS} {Q : e_Rt → e_SS → Prop} (hlen : (e_slx args).length ≤ 4) (j : s_w X d K_X10_pressChord 0 (e_ent0 args 4) [] S (fun r S' => e_rcr (none) r = true ∧ Q r S')) : s_c X d 129 args S Q := c_of rM_X10_pressChord rC_X10_pressChord rfl (fun _ => by contradiction) hlen j
abbrev r_X10_allPipes : e_MT := ((yX10_allPipes, 14), (0, false), (1676, 1674, 36, 1675))
abbrev K_X10_allPipes : e_KT := (14, false, cX10_allPipes, 3, [])
theorem rM_X10_allPipes : e_M[130]? = some r_X10_allPipes := by rfl
theorem rC_X10_allPipes : e_tb 1676 = some (Cond.code yX10_allPipes cX10_allPipes 3 (some FieldType.int)) := by decide +kernel
theorem m_X10_allPipes {X : e_XT} {d : Nat} {args : List Value} {S : e_SS} {Q : e_Rt → e_SS → Prop} (hlen : (e_slx args).length ≤ 3) (j : s_w X d K_X10_allPipes 0 (e_ent0 args 3) [] S (fun r S' => e_rcr (some FieldType.int) r = true ∧ Q r S')) : s_c X d 130 args S Q := c_of rM_X10_allPipes rC_X10_allPipes rfl (fun _ => by contradiction) hlen j
abbrev r_X10_sumOfPitches : e_MT := ((yX10_sumOfPitches, 14), (0, false), (1692, 1690, 36, 1691))
abbrev K_X10_sumOfPitches : e_KT := (14, false, cX10_sumOfPitches, 5, [])
theorem rM_X10_sumOfPitches : e_M[131]? = some r_X10_sumOfPitches := by rfl
theorem rC_X10_sumOfPitches : e_tb 1692 = some (Cond.code yX10_sumOfPitches cX10_sumOfPitches 5 (some FieldType.int)) := by decide +kernel
theorem m_X10_sumOfPitches {X : e_XT} {d : Nat} {args : List Value} {S : e_SS} {Q : e_Rt → e_SS → Prop} (hlen : (e_slx args).length ≤ 5) (j : s_w X d K_X10_sumOfPitches 0 (e_ent0 args 5) [] S (fun r S' => e_rcr (some FieldType.int) r = true ∧ Q r S')) : s_c X d 131 args S Q := c_of rM_X10_sumOfPitches rC_X10_sumOfPitches rfl (fun _ => by contradiction) hlen j
abbrev r_X11_init : e_MT := ((yX11_init, 15), (0, false), (74, 73, 35, 9999))
abbrev K_X11_init : e_KT := (15, true, cX11_init, 1, [])
theorem rM_X11_init : e_M[132]? = some r_X11_init := by rfl
theorem rC_X11_init : e_tb 74 = some (Cond.code yX11_init cX11_init 1 (none)) := by decide +kernel
theorem m_X11_init {X : e_XT} {d : Nat} {args : List Value} {S : e_SS} {Q : e_Rt → e_SS → Prop} (hlen : (e_slx args).length ≤ 1) (j : s_w X d K_X11_init 0 (e_ent0 args 1) [] S (fun r S' => e_rcr (none) r = true ∧ Q r S')) : s_c X d 132 args S Q := c_of rM_X11_init rC_X11_init rfl (fun _ => by rfl) hlen j
abbrev r_X11_tutti : e_MT := ((yX11_tutti, 15), (1, false), (1597, 1595, 35, 1596))
abbrev K_X11_tutti : e_KT := (15, false, cX11_tutti, 3, [])
theorem rM_X11_tutti : e_M[133]? = some r_X11_tutti := by rfl
theorem rC_X11_tutti : e_tb 1597 = some (Cond.code yX11_tutti cX11_tutti 3 (some FieldType.boolean)) := by decide +kernel
theorem m_X11_tutti {X : e_XT} {d : Nat} {args : List Value} {S : e_SS} {Q : e_Rt → e_SS → Prop} (hlen : (e_slx args).length ≤ 3) (j : s_w X d K_X11_tutti 0 (e_ent0 args 3) [] S (fun r S' => e_rcr (some FieldType.boolean) r = true ∧ Q r S')) : s_c X d 133 args S Q := c_of rM_X11_tutti rC_X11_tutti rfl (fun _ => by contradiction) hlen j
abbrev r_X11_lift : e_MT := ((yX11_lift, 15), (0, false), (1124, 1122, 35, 1123))
abbrev K_X11_lift : e_KT := (15, false, cX11_lift, 1, [])
theorem rM_X11_lift : e_M[134]? = some r_X11_lift := by rfl
theorem rC_X11_lift : e_tb 1124 = some (Cond.code yX11_lift cX11_lift 1 (some FieldType.int)) := by decide +kernel
theorem m_X11_lift {X : e_XT} {d : Nat} {args : List Value} {S : e_SS} {Q : e_Rt → e_SS → Prop} (hlen : (e_slx args).length ≤ 1) (j : s_w X d K_X11_lift 0 (e_ent0 args 1) [] S (fun r S' => e_rcr (some FieldType.int) r = true ∧ Q r S')) : s_c X d 134 args S Q := c_of rM_X11_lift rC_X11_lift rfl (fun _ => by contradiction) hlen j
abbrev r_X11_speaking : e_MT := ((yX11_speaking, 15), (0, false), (1698, 1696, 35, 1697))
abbrev K_X11_speaking : e_KT := (15, false, cX11_speaking, 1, [])
theorem rM_X11_speaking : e_M[135]? = some r_X11_speaking := by rfl
theorem rC_X11_speaking : e_tb 1698 = some (Cond.code yX11_speaking cX11_speaking 1 (some FieldType.int)) := by decide +kernel
theorem m_X11_speaking {X : e_XT} {d : Nat} {args : List Value} {S : e_SS} {Q : e_Rt → e_SS → Prop} (hlen : (e_slx args).length ≤ 1) (j : s_w X d K_X11_speaking 0 (e_ent0 args 1) [] S (fun r S' => e_rcr (some FieldType.int) r = true ∧ Q r S')) : s_c X d 135 args S Q := c_of rM_X11_speaking rC_X11_speaking rfl (fun _ => by contradiction) hlen j
abbrev r_X11_ended : e_MT := ((yX11_ended, 15), (0, false), (1702, 1700, 35, 1701))
abbrev K_X11_ended : e_KT := (15, false, cX11_ended, 1, [])
theorem rM_X11_ended : e_M[136]? = some r_X11_ended := by rfl
theorem rC_X11_ended : e_tb 1702 = some (Cond.code yX11_ended cX11_ended 1 (some FieldType.long)) := by decide +kernel
theorem m_X11_ended {X : e_XT} {d : Nat} {args : List Value} {S : e_SS} {Q : e_Rt → e_SS → Prop} (hlen : (e_slx args).length ≤ 1) (j : s_w X d K_X11_ended 0 (e_ent0 args 1) [] S (fun r S' => e_rcr (some FieldType.long) r = true ∧ Q r S')) : s_c X d 136 args S Q := c_of rM_X11_ended rC_X11_ended rfl (fun _ => by contradiction) hlen j
abbrev r_X11_loudness : e_MT := ((yX11_loudness, 15), (0, false), (1707, 1705, 35, 1706))
abbrev K_X11_loudness : e_KT := (15, false, cX11_loudness, 1, [])
theorem rM_X11_loudness : e_M[137]? = some r_X11_loudness := by rfl
theorem rC_X11_loudness : e_tb 1707 = some (Cond.code yX11_loudness cX11_loudness 1 (some FieldType.int)) := by decide +kernel
theorem m_X11_loudness {X : e_XT} {d : Nat} {args : List Value} {S : e_SS} {Q : e_Rt → e_SS → Prop} (hlen : (e_slx args).length ≤ 1) (j : s_w X d K_X11_loudness 0 (e_ent0 args 1) [] S (fun r S' => e_rcr (some FieldType.int) r = true ∧ Q r S')) : s_c X d 137 args S Q := c_of rM_X11_loudness rC_X11_loudness rfl (fun _ => by contradiction) hlen j
abbrev r_X11_step : e_MT := ((yX11_step, 15), (0, false), (1604, 1602, 35, 1603))
abbrev K_X11_step : e_KT := (15, false, cX11_step, 2, [])
theorem rM_X11_step : e_M[138]? = some r_X11_step := by rfl
theorem rC_X11_step : e_tb 1604 = some (Cond.code yX11_step cX11_step 2 (some FieldType.int)) := by decide +kernel
theorem m_X11_step {X : e_XT} {d : Nat} {args : List Value} {S : e_SS} {Q : e_Rt → e_SS → Prop} (hlen : (e_slx args).length ≤ 2) (j : s_w X d K_X11_step 0 (e_ent0 args 2) [] S (fun r S' => e_rcr (some FieldType.int) r = true ∧ Q r S')) : s_c X d 138 args S Q := c_of rM_X11_step rC_X11_step rfl (fun _ => by contradiction) hlen j
abbrev r_X11_isDivision : e_MT := ((yX11_isDivision, 15), (1, true), (701, 700, 35, 9999))
abbrev K_X11_isDivision : e_KT := (15, false, cX11_isDivision, 1, [])
theorem rM_X11_isDivision : e_M[139]? = some r_X11_isDivision := by rfl
theorem rC_X11_isDivision : e_tb 701 = some (Cond.code yX11_isDivision cX11_isDivision 1 (some FieldType.boolean)) := by decide +kernel
theorem m_X11_isDivision {X : e_XT} {d : Nat} {args : List Value} {S : e_SS} {Q : e_Rt → e_SS → Prop} (hlen : (e_slx args).length ≤ 1) (j : s_w X d K_X11_isDivision 0 (e_ent0 args 1) [] S (fun r S' => e_rcr (some FieldType.boolean) r = true ∧ Q r S')) : s_c X d 139 args S Q := c_of rM_X11_isDivision rC_X11_isDivision rfl (fun _ => by contradiction) hlen j
abbrev r_X11_moveKnobs : e_MT := ((yX11_moveKnobs, 15), (2, false), (1224, 1223, 35, 24))
abbrev K_X11_moveKnobs : e_KT := (15, false, cX11_moveKnobs, 6, [])
theorem rM_X11_moveKnobs : e_M[140]? = some r_X11_moveKnobs := by rfl
theorem rC_X11_moveKnobs : e_tb 1224 = some (Cond.code yX11_moveKnobs cX11_moveKnobs 6 (some FieldType.int)) := by decide +kernel
theorem m_X11_moveKnobs {X : e_XT} {d : Nat} {args : List Value} {S : e_SS} {Q : e_Rt → e_SS → Prop} (hlen : (e_slx args).length ≤ 6) (j : s_w X d K_X11_moveKnobs 0 (e_ent0 args 6) [] S (fun r S' => e_rcr (some FieldType.int) r = true ∧ Q r S')) : s_c X d 140 args S Q := c_of rM_X11_moveKnobs rC_X11_moveKnobs rfl (fun _ => by contradiction) hlen j
abbrev r_X11_recorded : e_MT := ((yX11_recorded, 15), (0, false), (1482, 1480, 35, 1481))
abbrev K_X11_recorded : e_KT := (15, false, cX11_recorded, 1, [])
theorem rM_X11_recorded : e_M[141]? = some r_X11_recorded := by rfl
theorem rC_X11_recorded : e_tb 1482 = some (Cond.code yX11_recorded cX11_recorded 1 (some FieldType.int)) := by decide +kernel
theorem m_X11_recorded {X : e_XT} {d : Nat} {args : List Value} {S : e_SS} {Q : e_Rt → e_SS → Prop} (hlen : (e_slx args).length ≤ 1) (j : s_w X d K_X11_recorded 0 (e_ent0 args 1) [] S (fun r S' => e_rcr (some FieldType.int) r = true ∧ Q r S')) : s_c X d 141 args S Q := c_of rM_X11_recorded rC_X11_recorded rfl (fun _ => by contradiction) hlen j
abbrev r_X11_isTrue : e_MT := ((yX11_isTrue, 15), (0, false), (489, 487, 35, 488))
abbrev K_X11_isTrue : e_KT := (15, false, cX11_isTrue, 1, [])
theorem rM_X11_isTrue : e_M[142]? = some r_X11_isTrue := by rfl
theorem rC_X11_isTrue : e_tb 489 = some (Cond.code yX11_isTrue cX11_isTrue 1 (some FieldType.boolean)) := by decide +kernel
theorem m_X11_isTrue {X : e_XT} {d : Nat} {args : List Value} {S : e_SS} {Q : e_Rt → e_SS → Prop} (hlen : (e_slx args).length ≤ 1) (j : s_w X d K_X11_isTrue 0 (e_ent0 args 1) [] S (fun r S' => e_rcr (some FieldType.boolean) r = true ∧ Q r S')) : s_c X d 142 args S Q := c_of rM_X11_isTrue rC_X11_isTrue rfl (fun _ => by contradiction) hlen j
abbrev r_X11_rank : e_MT := ((yX11_rank, 15), (7, false), (600, 598, 35, 599))
abbrev K_X11_rank : e_KT := (15, false, cX11_rank, 9, [])
theorem rM_X11_rank : e_M[143]? = some r_X11_rank := by rfl
theorem rC_X11_rank : e_tb 600 = some (Cond.code yX11_rank cX11_rank 9 (some FieldType.int)) := by decide +kernel
theorem m_X11_rank {X : e_XT} {d : Nat} {args : List Value} {S : e_SS} {Q : e_Rt → e_SS → Prop} (hlen : (e_slx args).length ≤ 9) (j : s_w X d K_X11_rank 0 (e_ent0 args 9) [] S (fun r S' => e_rcr (some FieldType.int) r = true ∧ Q r S')) : s_c X d 143 args S Q := c_of rM_X11_rank rC_X11_rank rfl (fun _ => by contradiction) hlen j
abbrev r_X11_needRange : e_MT := ((yX11_needRange, 15), (3, true), (603, 602, 35, 9999))
abbrev K_X11_needRange : e_KT := (15, false, cX11_needRange, 3, [])
theorem rM_X11_needRange : e_M[144]? = some r_X11_needRange := by rfl
theorem rC_X11_needRange : e_tb 603 = some (Cond.code yX11_needRange cX11_needRange 3 (none)) := by decide +kernel
theorem m_X11_needRange {X : e_XT} {d : Nat} {args : List Value} {S : e_SS} {Q : e_Rt → e_SS → Prop} (hlen : (e_slx args).length ≤ 3) (j : s_w X d K_X11_needRange 0 (e_ent0 args 3) [] S (fun r S' => e_rcr (none) r = true ∧ Q r S')) : s_c X d 144 args S Q := c_of rM_X11_needRange rC_X11_needRange rfl (fun _ => by contradiction) hlen j
abbrev r_X11_stop : e_MT := ((yX11_stop, 15), (1, false), (920, 918, 35, 919))
abbrev K_X11_stop : e_KT := (15, false, cX11_stop, 2, [])
theorem rM_X11_stop : e_M[145]? = some r_X11_stop := by rfl
theorem rC_X11_stop : e_tb 920 = some (Cond.code yX11_stop cX11_stop 2 (some FieldType.int)) := by decide +kernel
theorem m_X11_stop {X : e_XT} {d : Nat} {args : List Value} {S : e_SS} {Q : e_Rt → e_SS → Prop} (hlen : (e_slx args).length ≤ 2) (j : s_w X d K_X11_stop 0 (e_ent0 args 2) [] S (fun r S' => e_rcr (some FieldType.int) r = true ∧ Q r S')) : s_c X d 145 args S Q := c_of rM_X11_stop rC_X11_stop rfl (fun _ => by contradiction) hlen j
abbrev r_X11_needDivision : e_MT := ((yX11_needDivision, 15), (1, true), (923, 922, 35, 9999))
abbrev K_X11_needDivision : e_KT := (15, false, cX11_needDivision, 1, [])
theorem rM_X11_needDivision : e_M[146]? = some r_X11_needDivision := by rfl
theorem rC_X11_needDivision : e_tb 923 = some (Cond.code yX11_needDivision cX11_needDivision 1 (none)) := by decide +kernel
theorem m_X11_needDivision {X : e_XT} {d : Nat} {args : List Value} {S : e_SS} {Q : e_Rt → e_SS → Prop} (hlen : (e_slx args).length ≤ 1) (j : s_w X d K_X11_needDivision 0 (e_ent0 args 1) [] S (fun r S' => e_rcr (none) r = true ∧ Q r S')) : s_c X d 146 args S Q := c_of rM_X11_needDivision rC_X11_needDivision rfl (fun _ => by contradiction) hlen j
abbrev r_X11_needRoomForKnob : e_MT := ((yX11_needRoomForKnob, 15), (0, false), (941, 940, 35, 15))
abbrev K_X11_needRoomForKnob : e_KT := (15, false, cX11_needRoomForKnob, 1, [])
theorem rM_X11_needRoomForKnob : e_M[147]? = some r_X11_needRoomForKnob := by rfl
theorem rC_X11_needRoomForKnob : e_tb 941 = some (Cond.code yX11_needRoomForKnob cX11_needRoomForKnob 1 (none)) := by decide +kernel
theorem m_X11_needRoomForKnob {X : e_XT} {d : Nat} {args : List Value} {S : e_SS} {Q : e_Rt → e_SS → Prop} (hlen : (e_slx args).length ≤ 1) (j : s_w X d K_X11_needRoomForKnob 0 (e_ent0 args 1) [] S (fun r S' => e_rcr (none) r = true ∧ Q r S')) : s_c X d 147 args S Q := c_of rM_X11_needRoomForKnob rC_X11_needRoomForKnob rfl (fun _ => by contradiction) hlen j
abbrev r_X11_addKnob : e_MT := ((yX11_addKnob, 15), (1, false), (981, 980, 35, 16))
abbrev K_X11_addKnob : e_KT := (15, false, cX11_addKnob, 2, [])
theorem rM_X11_addKnob : e_M[148]? = some r_X11_addKnob := by rfl
theorem rC_X11_addKnob : e_tb 981 = some (Cond.code yX11_addKnob cX11_addKnob 2 (some FieldType.int)) := by decide +kernel
theorem m_X11_addKnob {X : e_XT} {d : Nat} {args : List Value} {S : e_SS} {Q : e_Rt → e_SS → Prop} (hlen : (e_slx args).length ≤ 2) (j : s_w X d K_X11_addKnob 0 (e_ent0 args 2) [] S (fun r S' => e_rcr (some FieldType.int) r = true ∧ Q r S')) : s_c X d 148 args S Q := c_of rM_X11_addKnob rC_X11_addKnob rfl (fun _ => by contradiction) hlen j
abbrev r_X11_row : e_MT := ((yX11_row, 15), (5, false), (989, 987, 35, 988))
abbrev K_X11_row : e_KT := (15, false, cX11_row, 8, [])
theorem rM_X11_row : e_M[149]? = some r_X11_row := by rfl
theorem rC_X11_row : e_tb 989 = some (Cond.code yX11_row cX11_row 8 (some FieldType.int)) := by decide +kernel
theorem m_X11_row {X : e_XT} {d : Nat} {args : List Value} {S : e_SS} {Q : e_Rt → e_SS → Prop} (hlen : (e_slx args).length ≤ 8) (j : s_w X d K_X11_row 0 (e_ent0 args 8) [] S (fun r S' => e_rcr (some FieldType.int) r = true ∧ Q r S')) : s_c X d 149 args S Q := c_of rM_X11_row rC_X11_row rfl (fun _ => by contradiction) hlen j
abbrev r_X11_needKnob : e_MT := ((yX11_needKnob, 15), (1, false), (993, 992, 35, 17))
abbrev K_X11_needKnob : e_KT := (15, false, cX11_needKnob, 3, [])
theorem rM_X11_needKnob : e_M[150]? = some r_X11_needKnob := by rfl
theorem rC_X11_needKnob : e_tb 993 = some (Cond.code yX11_needKnob cX11_needKnob 3 (some (FieldType.object "Rankhall$Knob"))) := by decide +kernel
theorem m_X11_needKnob {X : e_XT} {d : Nat} {args : List Value} {S : e_SS} {Q : e_Rt → e_SS → Prop} (hlen : (e_slx args).length ≤ 3) (j : s_w X d K_X11_needKnob 0 (e_ent0 args 3) [] S (fun r S' => e_rcr (some (FieldType.object "Rankhall$Knob")) r = true ∧ Q r S')) : s_c X d 150 args S Q := c_of rM_X11_needKnob rC_X11_needKnob rfl (fun _ => by contradiction) hlen j
abbrev r_X11_needRank : e_MT := ((yX11_needRank, 15), (1, false), (999, 998, 35, 18))
abbrev K_X11_needRank : e_KT := (15, false, cX11_needRank, 3, [])
theorem rM_X11_needRank : e_M[151]? = some r_X11_needRank := by rfl
theorem rC_X11_needRank : e_tb 999 = some (Cond.code yX11_needRank cX11_needRank 3 (some (FieldType.object "Rankhall$Rank"))) := by decide +kernel
theorem m_X11_needRank {X : e_XT} {d : Nat} {args : List Value} {S : e_SS} {Q : e_Rt → e_SS → Prop} (hlen : (e_slx args).length ≤ 3) (j : s_w X d K_X11_needRank 0 (e_ent0 args 3) [] S (fun r S' => e_rcr (some (FieldType.object "Rankhall$Rank")) r = true ∧ Q r S')) : s_c X d 151 args S Q := c_of rM_X11_needRank rC_X11_needRank rfl (fun _ => by contradiction) hlen j
abbrev r_X11_needStop : e_MT := ((yX11_needStop, 15), (1, true), (1007, 1006, 35, 9999))
abbrev K_X11_needStop : e_KT := (15, false, cX11_needStop, 1, [])
theorem rM_X11_needStop : e_M[152]? = some r_X11_needStop := by rfl
theorem rC_X11_needStop : e_tb 1007 = some (Cond.code yX11_needStop cX11_needStop 1 (some (FieldType.object "Rankhall$Stop"))) := by decide +kernel
theorem m_X11_needStop {X : e_XT} {d : Nat} {args : List Value} {S : e_SS} {Q : e_Rt → e_SS → Prop} (hlen : (e_slx args).length ≤ 1) (j : s_w X d K_X11_needStop 0 (e_ent0 args 1) [] S (fun r S' => e_rcr (some (FieldType.object "Rankhall$Stop")) r = true ∧ Q r S')) : s_c X d 152 args S Q := c_of rM_X11_needStop rC_X11_needStop rfl (fun _ => by contradiction) hlen j
abbrev r_X11_cross : e_MT := ((yX11_cross, 15), (3, false), (1742, 1740, 35, 1741))
abbrev K_X11_cross : e_KT := (15, false, cX11_cross, 6, [])
theorem rM_X11_cross : e_M[153]? = some r_X11_cross := by rfl
theorem rC_X11_cross : e_tb 1742 = some (Cond.code yX11_cross cX11_cross 6 (some FieldType.int)) := by decide +kernel
theorem m_X11_cross {X : e_XT} {d : Nat} {args : List Value} {S : e_SS} {Q : e_Rt → e_SS → Prop} (hlen : (e_slx args).length ≤ 6) (j : s_w X d K_X11_cross 0 (e_ent0 args 6) [] S (fun r S' => e_rcr (some FieldType.int) r = true ∧ Q r S')) : s_c X d 153 args S Q := c_of rM_X11_cross rC_X11_cross rfl (fun _ => by contradiction) hlen j
abbrev r_X11_coupler : e_MT := ((yX11_coupler, 15), (4, false), (1035, 1033, 35, 1034))
abbrev K_X11_coupler : e_KT := (15, false, cX11_coupler, 7, [])
theorem rM_X11_coupler : e_M[154]? = some r_X11_coupler := by rfl
theorem rC_X11_coupler : e_tb 1035 = some (Cond.code yX11_coupler cX11_coupler 7 (some FieldType.int)) := by decide +kernel
theorem m_X11_coupler {X : e_XT} {d : Nat} {args : List Value} {S : e_SS} {Q : e_Rt → e_SS → Prop} (hlen : (e_slx args).length ≤ 7) (j : s_w X d K_X11_coupler 0 (e_ent0 args 7) [] S (fun r S' => e_rcr (some FieldType.int) r = true ∧ Q r S')) : s_c X d 154 args S Q := c_of rM_X11_coupler rC_X11_coupler rfl (fun _ => by contradiction) hlen j
abbrev r_X11_tremulant : e_MT := ((yX11_tremulant, 15), (1, false), (1045, 1043, 35, 1044))
abbrev K_X11_tremulant : e_KT := (15, false, cX11_tremulant, 2, [])
theorem rM_X11_tremulant : e_M[155]? = some r_X11_tremulant := by rfl
theorem rC_X11_tremulant : e_tb 1045 = some (Cond.code yX11_tremulant cX11_tremulant 2 (some FieldType.int)) := by decide +kernel
theorem m_X11_tremulant {X : e_XT} {d : Nat} {args : List Value} {S : e_SS} {Q : e_Rt → e_SS → Prop} (hlen : (e_slx args).length ≤ 2) (j : s_w X d K_X11_tremulant 0 (e_ent0 args 2) [] S (fun r S' => e_rcr (some FieldType.int) r = true ∧ Q r S')) : s_c X d 155 args S Q := c_of rM_X11_tremulant rC_X11_tremulant rfl (fun _ => by contradiction) hlen j
abbrev r_X11_draw : e_MT := ((yX11_draw, 15), (2, false), (1113, 1111, 35, 1112))
abbrev K_X11_draw : e_KT := (15, false, cX11_draw, 5, [])
theorem rM_X11_draw : e_M[156]? = some r_X11_draw := by rfl
theorem rC_X11_draw : e_tb 1113 = some (Cond.code yX11_draw cX11_draw 5 (some FieldType.boolean)) := by decide +kernel
theorem m_X11_draw {X : e_XT} {d : Nat} {args : List Value} {S : e_SS} {Q : e_Rt → e_SS → Prop} (hlen : (e_slx args).length ≤ 5) (j : s_w X d K_X11_draw 0 (e_ent0 args 5) [] S (fun r S' => e_rcr (some FieldType.boolean) r = true ∧ Q r S')) : s_c X d 156 args S Q := c_of rM_X11_draw rC_X11_draw rfl (fun _ => by contradiction) hlen j
abbrev r_X11_isDrawn : e_MT := ((yX11_isDrawn, 15), (1, false), (1120, 1118, 35, 1119))
abbrev K_X11_isDrawn : e_KT := (15, false, cX11_isDrawn, 2, [])
theorem rM_X11_isDrawn : e_M[157]? = some r_X11_isDrawn := by rfl
theorem rC_X11_isDrawn : e_tb 1120 = some (Cond.code yX11_isDrawn cX11_isDrawn 2 (some FieldType.boolean)) := by decide +kernel
theorem m_X11_isDrawn {X : e_XT} {d : Nat} {args : List Value} {S : e_SS} {Q : e_Rt → e_SS → Prop} (hlen : (e_slx args).length ≤ 2) (j : s_w X d K_X11_isDrawn 0 (e_ent0 args 2) [] S (fun r S' => e_rcr (some FieldType.boolean) r = true ∧ Q r S')) : s_c X d 157 args S Q := c_of rM_X11_isDrawn rC_X11_isDrawn rfl (fun _ => by contradiction) hlen j
abbrev r_X11_isOn : e_MT := ((yX11_isOn, 15), (1, false), (1721, 1719, 35, 1720))
abbrev K_X11_isOn : e_KT := (15, false, cX11_isOn, 3, [])
theorem rM_X11_isOn : e_M[158]? = some r_X11_isOn := by rfl
theorem rC_X11_isOn : e_tb 1721 = some (Cond.code yX11_isOn cX11_isOn 3 (some FieldType.boolean)) := by decide +kernel
theorem m_X11_isOn {X : e_XT} {d : Nat} {args : List Value} {S : e_SS} {Q : e_Rt → e_SS → Prop} (hlen : (e_slx args).length ≤ 3) (j : s_w X d K_X11_isOn 0 (e_ent0 args 3) [] S (fun r S' => e_rcr (some FieldType.boolean) r = true ∧ Q r S')) : s_c X d 158 args S Q := c_of rM_X11_isOn rC_X11_isOn rfl (fun _ => by contradiction) hlen j
abbrev r_X11_lock : e_MT := ((yX11_lock, 15), (2, false), (1235, 1233, 35, 1234))
abbrev K_X11_lock : e_KT := (15, false, cX11_lock, 5, [])
theorem rM_X11_lock : e_M[159]? = some r_X11_lock := by rfl
theorem rC_X11_lock : e_tb 1235 = some (Cond.code yX11_lock cX11_lock 5 (some FieldType.boolean)) := by decide +kernel
theorem m_X11_lock {X : e_XT} {d : Nat} {args : List Value} {S : e_SS} {Q : e_Rt → e_SS → Prop} (hlen : (e_slx args).length ≤ 5) (j : s_w X d K_X11_lock 0 (e_ent0 args 5) [] S (fun r S' => e_rcr (some FieldType.boolean) r = true ∧ Q r S')) : s_c X d 159 args S Q := c_of rM_X11_lock rC_X11_lock rfl (fun _ => by contradiction) hlen j
abbrev r_X11_stage : e_MT := ((yX11_stage, 15), (2, false), (1564, 1562, 35, 1563))
abbrev K_X11_stage : e_KT := (15, false, cX11_stage, 6, [])
theorem rM_X11_stage : e_M[160]? = some r_X11_stage := by rfl
theorem rC_X11_stage : e_tb 1564 = some (Cond.code yX11_stage cX11_stage 6 (some FieldType.int)) := by decide +kernel
theorem m_X11_stage {X : e_XT} {d : Nat} {args : List Value} {S : e_SS} {Q : e_Rt → e_SS → Prop} (hlen : (e_slx args).length ≤ 6) (j : s_w X d K_X11_stage 0 (e_ent0 args 6) [] S (fun r S' => e_rcr (some FieldType.int) r = true ∧ Q r S')) : s_c X d 160 args S Q := c_of rM_X11_stage rC_X11_stage rfl (fun _ => by contradiction) hlen j
abbrev r_X11_crescendo : e_MT := ((yX11_crescendo, 15), (1, false), (1557, 1555, 35, 1556))
abbrev K_X11_crescendo : e_KT := (15, false, cX11_crescendo, 3, [])
theorem rM_X11_crescendo : e_M[161]? = some r_X11_crescendo := by rfl
theorem rC_X11_crescendo : e_tb 1557 = some (Cond.code yX11_crescendo cX11_crescendo 3 (some FieldType.int)) := by decide +kernel
theorem m_X11_crescendo {X : e_XT} {d : Nat} {args : List Value} {S : e_SS} {Q : e_Rt → e_SS → Prop} (hlen : (e_slx args).length ≤ 3) (j : s_w X d K_X11_crescendo 0 (e_ent0 args 3) [] S (fun r S' => e_rcr (some FieldType.int) r = true ∧ Q r S')) : s_c X d 161 args S Q := c_of rM_X11_crescendo rC_X11_crescendo rfl (fun _ => by contradiction) hlen j
abbrev r_X11_key : e_MT := ((yX11_key, 15), (3, false), (1075, 1073, 35, 1074))
abbrev K_X11_key : e_KT := (15, false, cX11_key, 5, [])
theorem rM_X11_key : e_M[162]? = some r_X11_key := by rfl
theorem rC_X11_key : e_tb 1075 = some (Cond.code yX11_key cX11_key 5 (some FieldType.boolean)) := by decide +kernel
theorem m_X11_key {X : e_XT} {d : Nat} {args : List Value} {S : e_SS} {Q : e_Rt → e_SS → Prop} (hlen : (e_slx args).length ≤ 5) (j : s_w X d K_X11_key 0 (e_ent0 args 5) [] S (fun r S' => e_rcr (some FieldType.boolean) r = true ∧ Q r S')) : s_c X d 162 args S Q := c_of rM_X11_key rC_X11_key rfl (fun _ => by contradiction) hlen j
abbrev r_X11_needKey : e_MT := ((yX11_needKey, 15), (2, true), (1078, 1077, 35, 9999))
abbrev K_X11_needKey : e_KT := (15, false, cX11_needKey, 2, [])
theorem rM_X11_needKey : e_M[163]? = some r_X11_needKey := by rfl
theorem rC_X11_needKey : e_tb 1078 = some (Cond.code yX11_needKey cX11_needKey 2 (none)) := by decide +kernel
theorem m_X11_needKey {X : e_XT} {d : Nat} {args : List Value} {S : e_SS} {Q : e_Rt → e_SS → Prop} (hlen : (e_slx args).length ≤ 2) (j : s_w X d K_X11_needKey 0 (e_ent0 args 2) [] S (fun r S' => e_rcr (none) r = true ∧ Q r S')) : s_c X d 163 args S Q := c_of rM_X11_needKey rC_X11_needKey rfl (fun _ => by contradiction) hlen j
abbrev r_X11_isDown : e_MT := ((yX11_isDown, 15), (2, false), (1106, 1104, 35, 1105))
abbrev K_X11_isDown : e_KT := (15, false, cX11_isDown, 3, [])
theorem rM_X11_isDown : e_M[164]? = some r_X11_isDown := by rfl
theorem rC_X11_isDown : e_tb 1106 = some (Cond.code yX11_isDown cX11_isDown 3 (some FieldType.boolean)) := by decide +kernel
theorem m_X11_isDown {X : e_XT} {d : Nat} {args : List Value} {S : e_SS} {Q : e_Rt → e_SS → Prop} (hlen : (e_slx args).length ≤ 3) (j : s_w X d K_X11_isDown 0 (e_ent0 args 3) [] S (fun r S' => e_rcr (some FieldType.boolean) r = true ∧ Q r S')) : s_c X d 164 args S Q := c_of rM_X11_isDown rC_X11_isDown rfl (fun _ => by contradiction) hlen j
abbrev r_X11_pass : e_MT := ((yX11_pass, 15), (1, false), (1052, 1050, 35, 1051))
abbrev K_X11_pass : e_KT := (15, false, cX11_pass, 2, [])
theorem rM_X11_pass : e_M[165]? = some r_X11_pass := by rfl
theorem rC_X11_pass : e_tb 1052 = some (Cond.code yX11_pass cX11_pass 2 (some FieldType.int)) := by decide +kernel
theorem m_X11_pass {X : e_XT} {d : Nat} {args : List Value} {S : e_SS} {Q : e_Rt → e_SS → Prop} (hlen : (e_slx args).length ≤ 2) (j : s_w X d K_X11_pass 0 (e_ent0 args 2) [] S (fun r S' => e_rcr (some FieldType.int) r = true ∧ Q r S')) : s_c X d 165 args S Q := c_of rM_X11_pass rC_X11_pass rfl (fun _ => by contradiction) hlen j
abbrev r_X11_reasons : e_MT := ((yX11_reasons, 15), (2, false), (1621, 1619, 35, 1620))
abbrev K_X11_reasons : e_KT := (15, false, cX11_reasons, 3, [])
theorem rM_X11_reasons : e_M[166]? = some r_X11_reasons := by rfl
theorem rC_X11_reasons : e_tb 1621 = some (Cond.code yX11_reasons cX11_reasons 3 (some FieldType.int)) := by decide +kernel
theorem m_X11_reasons {X : e_XT} {d : Nat} {args : List Value} {S : e_SS} {Q : e_Rt → e_SS → Prop} (hlen : (e_slx args).length ≤ 3) (j : s_w X d K_X11_reasons 0 (e_ent0 args 3) [] S (fun r S' => e_rcr (some FieldType.int) r = true ∧ Q r S')) : s_c X d 166 args S Q := c_of rM_X11_reasons rC_X11_reasons rfl (fun _ => by contradiction) hlen j
abbrev r_X11_needPipe : e_MT := ((yX11_needPipe, 15), (2, false), (1530, 1529, 35, 32))
abbrev K_X11_needPipe : e_KT := (15, false, cX11_needPipe, 4, [])
theorem rM_X11_needPipe : e_M[167]? = some r_X11_needPipe := by rfl
theorem rC_X11_needPipe : e_tb 1530 = some (Cond.code yX11_needPipe cX11_needPipe 4 (some (FieldType.object "Rankhall$Pipe"))) := by decide +kernel
theorem m_X11_needPipe {X : e_XT} {d : Nat} {args : List Value} {S : e_SS} {Q : e_Rt → e_SS → Prop} (hlen : (e_slx args).length ≤ 4) (j : s_w X d K_X11_needPipe 0 (e_ent0 args 4) [] S (fun r S' => e_rcr (some (FieldType.object "Rankhall$Pipe")) r = true ∧ Q r S')) : s_c X d 167 args S Q := c_of rM_X11_needPipe rC_X11_needPipe rfl (fun _ => by contradiction) hlen j
abbrev r_X11_reasonsAnew : e_MT := ((yX11_reasonsAnew, 15), (2, false), (1643, 1641, 35, 1642))
abbrev K_X11_reasonsAnew : e_KT := (15, false, cX11_reasonsAnew, 3, [])
theorem rM_X11_reasonsAnew : e_M[168]? = some r_X11_reasonsAnew := by rfl
theorem rC_X11_reasonsAnew : e_tb 1643 = some (Cond.code yX11_reasonsAnew cX11_reasonsAnew 3 (some FieldType.int)) := by decide +kernel
theorem m_X11_reasonsAnew {X : e_XT} {d : Nat} {args : List Value} {S : e_SS} {Q : e_Rt → e_SS → Prop} (hlen : (e_slx args).length ≤ 3) (j : s_w X d K_X11_reasonsAnew 0 (e_ent0 args 3) [] S (fun r S' => e_rcr (some FieldType.int) r = true ∧ Q r S')) : s_c X d 168 args S Q := c_of rM_X11_reasonsAnew rC_X11_reasonsAnew rfl (fun _ => by contradiction) hlen j
abbrev r_X11_isOpen : e_MT := ((yX11_isOpen, 15), (2, false), (1732, 1730, 35, 1731))
abbrev K_X11_isOpen : e_KT := (15, false, cX11_isOpen, 3, [])
theorem rM_X11_isOpen : e_M[169]? = some r_X11_isOpen := by rfl
theorem rC_X11_isOpen : e_tb 1732 = some (Cond.code yX11_isOpen cX11_isOpen 3 (some FieldType.boolean)) := by decide +kernel
theorem m_X11_isOpen {X : e_XT} {d : Nat} {args : List Value} {S : e_SS} {Q : e_Rt → e_SS → Prop} (hlen : (e_slx args).length ≤ 3) (j : s_w X d K_X11_isOpen 0 (e_ent0 args 3) [] S (fun r S' => e_rcr (some FieldType.boolean) r = true ∧ Q r S')) : s_c X d 169 args S Q := c_of rM_X11_isOpen rC_X11_isOpen rfl (fun _ => by contradiction) hlen j
abbrev r_X11_speaks : e_MT := ((yX11_speaks, 15), (2, false), (1629, 1627, 35, 1628))
abbrev K_X11_speaks : e_KT := (15, false, cX11_speaks, 3, [])
theorem rM_X11_speaks : e_M[170]? = some r_X11_speaks := by rfl
theorem rC_X11_speaks : e_tb 1629 = some (Cond.code yX11_speaks cX11_speaks 3 (some FieldType.boolean)) := by decide +kernel
theorem m_X11_speaks {X : e_XT} {d : Nat} {args : List Value} {S : e_SS} {Q : e_Rt → e_SS → Prop} (hlen : (e_slx args).length ≤ 3) (j : s_w X d K_X11_speaks 0 (e_ent0 args 3) [] S (fun r S' => e_rcr (some FieldType.boolean) r = true ∧ Q r S')) : s_c X d 170 args S Q := c_of rM_X11_speaks rC_X11_speaks rfl (fun _ => by contradiction) hlen j
abbrev r_X11_begun : e_MT := ((yX11_begun, 15), (2, false), (1636, 1634, 35, 1635))
abbrev K_X11_begun : e_KT := (15, false, cX11_begun, 3, [])
theorem rM_X11_begun : e_M[171]? = some r_X11_begun := by rfl
theorem rC_X11_begun : e_tb 1636 = some (Cond.code yX11_begun cX11_begun 3 (some FieldType.int)) := by decide +kernel
theorem m_X11_begun {X : e_XT} {d : Nat} {args : List Value} {S : e_SS} {Q : e_Rt → e_SS → Prop} (hlen : (e_slx args).length ≤ 3) (j : s_w X d K_X11_begun 0 (e_ent0 args 3) [] S (fun r S' => e_rcr (some FieldType.int) r = true ∧ Q r S')) : s_c X d 171 args S Q := c_of rM_X11_begun rC_X11_begun rfl (fun _ => by contradiction) hlen j
abbrev r_X11_supply : e_MT := ((yX11_supply, 15), (2, false), (1593, 1591, 35, 1592))
abbrev K_X11_supply : e_KT := (15, false, cX11_supply, 4, [])
theorem rM_X11_supply : e_M[172]? = some r_X11_supply := by rfl
theorem rC_X11_supply : e_tb 1593 = some (Cond.code yX11_supply cX11_supply 4 (some FieldType.int)) := by decide +kernel
theorem m_X11_supply {X : e_XT} {d : Nat} {args : List Value} {S : e_SS} {Q : e_Rt → e_SS → Prop} (hlen : (e_slx args).length ≤ 4) (j : s_w X d K_X11_supply 0 (e_ent0 args 4) [] S (fun r S' => e_rcr (some FieldType.int) r = true ∧ Q r S')) : s_c X d 172 args S Q := c_of rM_X11_supply rC_X11_supply rfl (fun _ => by contradiction) hlen j
abbrev r_X11_wind : e_MT := ((yX11_wind, 15), (1, false), (1614, 1612, 35, 1613))
abbrev K_X11_wind : e_KT := (15, false, cX11_wind, 2, [])
theorem rM_X11_wind : e_M[173]? = some r_X11_wind := by rfl
theorem rC_X11_wind : e_tb 1614 = some (Cond.code yX11_wind cX11_wind 2 (some FieldType.int)) := by decide +kernel
theorem m_X11_wind {X : e_XT} {d : Nat} {args : List Value} {S : e_SS} {Q : e_Rt → e_SS → Prop} (hlen : (e_slx args).length ≤ 2) (j : s_w X d K_X11_wind 0 (e_ent0 args 2) [] S (fun r S' => e_rcr (some FieldType.int) r = true ∧ Q r S')) : s_c X d 173 args S Q := c_of rM_X11_wind rC_X11_wind rfl (fun _ => by contradiction) hlen j
abbrev r_X11_box : e_MT := ((yX11_box, 15), (2, false), (1762, 1760, 35, 1761))
abbrev K_X11_box : e_KT := (15, false, cX11_box, 4, [])
theorem rM_X11_box : e_M[174]? = some r_X11_box := by rfl
theorem rC_X11_box : e_tb 1762 = some (Cond.code yX11_box cX11_box 4 (some FieldType.int)) := by decide +kernel
theorem m_X11_box {X : e_XT} {d : Nat} {args : List Value} {S : e_SS} {Q : e_Rt → e_SS → Prop} (hlen : (e_slx args).length ≤ 4) (j : s_w X d K_X11_box 0 (e_ent0 args 4) [] S (fun r S' => e_rcr (some FieldType.int) r = true ∧ Q r S')) : s_c X d 174 args S Q := c_of rM_X11_box rC_X11_box rfl (fun _ => by contradiction) hlen j
abbrev r_X11_tune : e_MT := ((yX11_tune, 15), (3, false), (1571, 1569, 35, 1570))
abbrev K_X11_tune : e_KT := (15, false, cX11_tune, 6, [])
theorem rM_X11_tune : e_M[176]? = some r_X11_tune := by rfl
theorem rC_X11_tune : e_tb 1571 = some (Cond.code yX11_tune cX11_tune 6 (some FieldType.int)) := by decide +kernel
theorem m_X11_tune {X : e_XT} {d : Nat} {args : List Value} {S : e_SS} {Q : e_Rt → e_SS → Prop} (hlen : (e_slx args).length ≤ 6) (j : s_w X d K_X11_tune 0 (e_ent0 args 6) [] S (fun r S' => e_rcr (some FieldType.int) r = true ∧ Q r S')) : s_c X d 176 args S Q := c_of rM_X11_tune rC_X11_tune rfl (fun _ => by contradiction) hlen j
abbrev r_X11_tuneTo : e_MT := ((yX11_tuneTo, 15), (4, false), (1578, 1576, 35, 1577))
abbrev K_X11_tuneTo : e_KT := (15, false, cX11_tuneTo, 7, [])
theorem rM_X11_tuneTo : e_M[177]? = some r_X11_tuneTo := by rfl
theorem rC_X11_tuneTo : e_tb 1578 = some (Cond.code yX11_tuneTo cX11_tuneTo 7 (some FieldType.int)) := by decide +kernel
theorem m_X11_tuneTo {X : e_XT} {d : Nat} {args : List Value} {S : e_SS} {Q : e_Rt → e_SS → Prop} (hlen : (e_slx args).length ≤ 7) (j : s_w X d K_X11_tuneTo 0 (e_ent0 args 7) [] S (fun r S' => e_rcr (some FieldType.int) r = true ∧ Q r S')) : s_c X d 177 args S Q := c_of rM_X11_tuneTo rC_X11_tuneTo rfl (fun _ => by contradiction) hlen j
abbrev r_X11_pitch : e_MT := ((yX11_pitch, 15), (2, false), (1651, 1649, 35, 1650))
abbrev K_X11_pitch : e_KT := (15, false, cX11_pitch, 3, [])
theorem rM_X11_pitch : e_M[179]? = some r_X11_pitch := by rfl
theorem rC_X11_pitch : e_tb 1651 = some (Cond.code yX11_pitch cX11_pitch 3 (some FieldType.int)) := by decide +kernel
theorem m_X11_pitch {X : e_XT} {d : Nat} {args : List Value} {S : e_SS} {Q : e_Rt → e_SS → Prop} (hlen : (e_slx args).length ≤ 3) (j : s_w X d K_X11_pitch 0 (e_ent0 args 3) [] S (fun r S' => e_rcr (some FieldType.int) r = true ∧ Q r S')) : s_c X d 179 args S Q := c_of rM_X11_pitch rC_X11_pitch rfl (fun _ => by contradiction) hlen j
abbrev r_X11_fault : e_MT := ((yX11_fault, 15), (3, false), (1526, 1524, 35, 1525))
abbrev K_X11_fault : e_KT := (15, false, cX11_fault, 6, [])
theorem rM_X11_fault : e_M[180]? = some r_X11_fault := by rfl
theorem rC_X11_fault : e_tb 1526 = some (Cond.code yX11_fault cX11_fault 6 (some FieldType.char)) := by decide +kernel
theorem m_X11_fault {X : e_XT} {d : Nat} {args : List Value} {S : e_SS} {Q : e_Rt → e_SS → Prop} (hlen : (e_slx args).length ≤ 6) (j : s_w X d K_X11_fault 0 (e_ent0 args 6) [] S (fun r S' => e_rcr (some FieldType.char) r = true ∧ Q r S')) : s_c X d 180 args S Q := c_of rM_X11_fault rC_X11_fault rfl (fun _ => by contradiction) hlen j
abbrev r_X11_hunt : e_MT := ((yX11_hunt, 15), (1, false), (1540, 1538, 35, 1539))
abbrev K_X11_hunt : e_KT := (15, false, cX11_hunt, 2, [])
theorem rM_X11_hunt : e_M[181]? = some r_X11_hunt := by rfl
theorem rC_X11_hunt : e_tb 1540 = some (Cond.code yX11_hunt cX11_hunt 2 (some FieldType.int)) := by decide +kernel
theorem m_X11_hunt {X : e_XT} {d : Nat} {args : List Value} {S : e_SS} {Q : e_Rt → e_SS → Prop} (hlen : (e_slx args).length ≤ 2) (j : s_w X d K_X11_hunt 0 (e_ent0 args 2) [] S (fun r S' => e_rcr (some FieldType.int) r = true ∧ Q r S')) : s_c X d 181 args S Q := c_of rM_X11_hunt rC_X11_hunt rfl (fun _ => by contradiction) hlen j
abbrev r_X11_needOwnLevel : e_MT := ((yX11_needOwnLevel, 15), (0, false), (1149, 1148, 35, 22))
abbrev K_X11_needOwnLevel : e_KT := (15, false, cX11_needOwnLevel, 1, [])
theorem rM_X11_needOwnLevel : e_M[184]? = some r_X11_needOwnLevel := by rfl
theorem rC_X11_needOwnLevel : e_tb 1149 = some (Cond.code yX11_needOwnLevel cX11_needOwnLevel 1 (none)) := by decide +kernel
theorem m_X11_needOwnLevel {X : e_XT} {d : Nat} {args : List Value} {S : e_SS} {Q : e_Rt → e_SS → Prop} (hlen : (e_slx args).length ≤ 1) (j : s_w X d K_X11_needOwnLevel 0 (e_ent0 args 1) [] S (fun r S' => e_rcr (none) r = true ∧ Q r S')) : s_c X d 184 args S Q := c_of rM_X11_needOwnLevel rC_X11_needOwnLevel rfl (fun _ => by contradiction) hlen j
abbrev r_X11_scope : e_MT := ((yX11_scope, 15), (2, false), (1242, 1240, 35, 1241))
abbrev K_X11_scope : e_KT := (15, false, cX11_scope, 5, [])
theorem rM_X11_scope : e_M[186]? = some r_X11_scope := by rfl
theorem rC_X11_scope : e_tb 1242 = some (Cond.code yX11_scope cX11_scope 5 (some FieldType.boolean)) := by decide +kernel
theorem m_X11_scope {X : e_XT} {d : Nat} {args : List Value} {S : e_SS} {Q : e_Rt → e_SS → Prop} (hlen : (e_slx args).length ≤ 5) (j : s_w X d K_X11_scope 0 (e_ent0 args 5) [] S (fun r S' => e_rcr (some FieldType.boolean) r = true ∧ Q r S')) : s_c X d 186 args S Q := c_of rM_X11_scope rC_X11_scope rfl (fun _ => by contradiction) hlen j
abbrev r_X11_set : e_MT := ((yX11_set, 15), (2, false), (1137, 1135, 35, 1136))
abbrev K_X11_set : e_KT := (15, false, cX11_set, 8, [])
theorem rM_X11_set : e_M[187]? = some r_X11_set := by rfl
theorem rC_X11_set : e_tb 1137 = some (Cond.code yX11_set cX11_set 8 (some FieldType.int)) := by decide +kernel
theorem m_X11_set {X : e_XT} {d : Nat} {args : List Value} {S : e_SS} {Q : e_Rt → e_SS → Prop} (hlen : (e_slx args).length ≤ 8) (j : s_w X d K_X11_set 0 (e_ent0 args 8) [] S (fun r S' => e_rcr (some FieldType.int) r = true ∧ Q r S')) : s_c X d 187 args S Q := c_of rM_X11_set rC_X11_set rfl (fun _ => by contradiction) hlen j
abbrev r_X11_needPiston : e_MT := ((yX11_needPiston, 15), (2, true), (1140, 1139, 35, 9999))
abbrev K_X11_needPiston : e_KT := (15, false, cX11_needPiston, 3, [])
theorem rM_X11_needPiston : e_M[188]? = some r_X11_needPiston := by rfl
theorem rC_X11_needPiston : e_tb 1140 = some (Cond.code yX11_needPiston cX11_needPiston 3 (some FieldType.int)) := by decide +kernel
theorem m_X11_needPiston {X : e_XT} {d : Nat} {args : List Value} {S : e_SS} {Q : e_Rt → e_SS → Prop} (hlen : (e_slx args).length ≤ 3) (j : s_w X d K_X11_needPiston 0 (e_ent0 args 3) [] S (fun r S' => e_rcr (some FieldType.int) r = true ∧ Q r S')) : s_c X d 188 args S Q := c_of rM_X11_needPiston rC_X11_needPiston rfl (fun _ => by contradiction) hlen j
abbrev r_X11_push : e_MT := ((yX11_push, 15), (2, false), (1192, 1190, 35, 1191))
abbrev K_X11_push : e_KT := (15, false, cX11_push, 4, [])
theorem rM_X11_push : e_M[189]? = some r_X11_push := by rfl
theorem rC_X11_push : e_tb 1192 = some (Cond.code yX11_push cX11_push 4 (some FieldType.int)) := by decide +kernel
theorem m_X11_push {X : e_XT} {d : Nat} {args : List Value} {S : e_SS} {Q : e_Rt → e_SS → Prop} (hlen : (e_slx args).length ≤ 4) (j : s_w X d K_X11_push 0 (e_ent0 args 4) [] S (fun r S' => e_rcr (some FieldType.int) r = true ∧ Q r S')) : s_c X d 189 args S Q := c_of rM_X11_push rC_X11_push rfl (fun _ => by contradiction) hlen j
abbrev r_X11_setReversible : e_MT := ((yX11_setReversible, 15), (2, false), (1367, 1365, 35, 1366))
abbrev K_X11_setReversible : e_KT := (15, false, cX11_setReversible, 4, [])
theorem rM_X11_setReversible : e_M[190]? = some r_X11_setReversible := by rfl
theorem rC_X11_setReversible : e_tb 1367 = some (Cond.code yX11_setReversible cX11_setReversible 4 (some FieldType.int)) := by decide +kernel
theorem m_X11_setReversible {X : e_XT} {d : Nat} {args : List Value} {S : e_SS} {Q : e_Rt → e_SS → Prop} (hlen : (e_slx args).length ≤ 4) (j : s_w X d K_X11_setReversible 0 (e_ent0 args 4) [] S (fun r S' => e_rcr (some FieldType.int) r = true ∧ Q r S')) : s_c X d 190 args S Q := c_of rM_X11_setReversible rC_X11_setReversible rfl (fun _ => by contradiction) hlen j
abbrev r_X11_needReversible : e_MT := ((yX11_needReversible, 15), (1, true), (1370, 1369, 35, 9999))
abbrev K_X11_needReversible : e_KT := (15, false, cX11_needReversible, 1, [])
theorem rM_X11_needReversible : e_M[191]? = some r_X11_needReversible := by rfl
theorem rC_X11_needReversible : e_tb 1370 = some (Cond.code yX11_needReversible cX11_needReversible 1 (none)) := by decide +kernel
theorem m_X11_needReversible {X : e_XT} {d : Nat} {args : List Value} {S : e_SS} {Q : e_Rt → e_SS → Prop} (hlen : (e_slx args).length ≤ 1) (j : s_w X d K_X11_needReversible 0 (e_ent0 args 1) [] S (fun r S' => e_rcr (none) r = true ∧ Q r S')) : s_c X d 191 args S Q := c_of rM_X11_needReversible rC_X11_needReversible rfl (fun _ => by contradiction) hlen j
abbrev r_X11_pushReversible : e_MT := ((yX11_pushReversible, 15), (1, false), (1386, 1384, 35, 1385))
abbrev K_X11_pushReversible : e_KT := (15, false, cX11_pushReversible, 4, [])
theorem rM_X11_pushReversible : e_M[192]? = some r_X11_pushReversible := by rfl
theorem rC_X11_pushReversible : e_tb 1386 = some (Cond.code yX11_pushReversible cX11_pushReversible 4 (some FieldType.boolean)) := by decide +kernel
theorem m_X11_pushReversible {X : e_XT} {d : Nat} {args : List Value} {S : e_SS} {Q : e_Rt → e_SS → Prop} (hlen : (e_slx args).length ≤ 4) (j : s_w X d K_X11_pushReversible 0 (e_ent0 args 4) [] S (fun r S' => e_rcr (some FieldType.boolean) r = true ∧ Q r S')) : s_c X d 192 args S Q := c_of rM_X11_pushReversible rC_X11_pushReversible rfl (fun _ => by contradiction) hlen j
abbrev r_X11_frame : e_MT := ((yX11_frame, 15), (1, false), (1249, 1247, 35, 1248))
abbrev K_X11_frame : e_KT := (15, false, cX11_frame, 4, [])
theorem rM_X11_frame : e_M[193]? = some r_X11_frame := by rfl
theorem rC_X11_frame : e_tb 1249 = some (Cond.code yX11_frame cX11_frame 4 (some FieldType.int)) := by decide +kernel
theorem m_X11_frame {X : e_XT} {d : Nat} {args : List Value} {S : e_SS} {Q : e_Rt → e_SS → Prop} (hlen : (e_slx args).length ≤ 4) (j : s_w X d K_X11_frame 0 (e_ent0 args 4) [] S (fun r S' => e_rcr (some FieldType.int) r = true ∧ Q r S')) : s_c X d 193 args S Q := c_of rM_X11_frame rC_X11_frame rfl (fun _ => by contradiction) hlen j
abbrev r_X11_needFrame : e_MT := ((yX11_needFrame, 15), (1, false), (1276, 1275, 35, 25))
abbrev K_X11_needFrame : e_KT := (15, false, cX11_needFrame, 2, [])
theorem rM_X11_needFrame : e_M[195]? = some r_X11_needFrame := by rfl
theorem rC_X11_needFrame : e_tb 1276 = some (Cond.code yX11_needFrame cX11_needFrame 2 (none)) := by decide +kernel
theorem m_X11_needFrame {X : e_XT} {d : Nat} {args : List Value} {S : e_SS} {Q : e_Rt → e_SS → Prop} (hlen : (e_slx args).length ≤ 2) (j : s_w X d K_X11_needFrame 0 (e_ent0 args 2) [] S (fun r S' => e_rcr (none) r = true ∧ Q r S')) : s_c X d 195 args S Q := c_of rM_X11_needFrame rC_X11_needFrame rfl (fun _ => by contradiction) hlen j
abbrev r_X11_turnTo : e_MT := ((yX11_turnTo, 15), (1, false), (1272, 1270, 35, 1271))
abbrev K_X11_turnTo : e_KT := (15, false, cX11_turnTo, 2, [])
theorem rM_X11_turnTo : e_M[196]? = some r_X11_turnTo := by rfl
theorem rC_X11_turnTo : e_tb 1272 = some (Cond.code yX11_turnTo cX11_turnTo 2 (some FieldType.int)) := by decide +kernel
theorem m_X11_turnTo {X : e_XT} {d : Nat} {args : List Value} {S : e_SS} {Q : e_Rt → e_SS → Prop} (hlen : (e_slx args).length ≤ 2) (j : s_w X d K_X11_turnTo 0 (e_ent0 args 2) [] S (fun r S' => e_rcr (some FieldType.int) r = true ∧ Q r S')) : s_c X d 196 args S Q := c_of rM_X11_turnTo rC_X11_turnTo rfl (fun _ => by contradiction) hlen j
abbrev r_X11_wire : e_MT := ((yX11_wire, 15), (4, false), (1331, 1329, 35, 1330))
abbrev K_X11_wire : e_KT := (15, false, cX11_wire, 6, [])
theorem rM_X11_wire : e_M[197]? = some r_X11_wire := by rfl
theorem rC_X11_wire : e_tb 1331 = some (Cond.code yX11_wire cX11_wire 6 (some FieldType.boolean)) := by decide +kernel
theorem m_X11_wire {X : e_XT} {d : Nat} {args : List Value} {S : e_SS} {Q : e_Rt → e_SS → Prop} (hlen : (e_slx args).length ≤ 6) (j : s_w X d K_X11_wire 0 (e_ent0 args 6) [] S (fun r S' => e_rcr (some FieldType.boolean) r = true ∧ Q r S')) : s_c X d 197 args S Q := c_of rM_X11_wire rC_X11_wire rfl (fun _ => by contradiction) hlen j
abbrev r_X11_needRelay : e_MT := ((yX11_needRelay, 15), (1, true), (1334, 1333, 35, 9999))
abbrev K_X11_needRelay : e_KT := (15, false, cX11_needRelay, 1, [])
theorem rM_X11_needRelay : e_M[198]? = some r_X11_needRelay := by rfl
theorem rC_X11_needRelay : e_tb 1334 = some (Cond.code yX11_needRelay cX11_needRelay 1 (none)) := by decide +kernel
theorem m_X11_needRelay {X : e_XT} {d : Nat} {args : List Value} {S : e_SS} {Q : e_Rt → e_SS → Prop} (hlen : (e_slx args).length ≤ 1) (j : s_w X d K_X11_needRelay 0 (e_ent0 args 1) [] S (fun r S' => e_rcr (none) r = true ∧ Q r S')) : s_c X d 198 args S Q := c_of rM_X11_needRelay rC_X11_needRelay rfl (fun _ => by contradiction) hlen j
abbrev r_X11_isOnRelay : e_MT := ((yX11_isOnRelay, 15), (1, false), (1353, 1351, 35, 1352))
abbrev K_X11_isOnRelay : e_KT := (15, false, cX11_isOnRelay, 2, [])
theorem rM_X11_isOnRelay : e_M[199]? = some r_X11_isOnRelay := by rfl
theorem rC_X11_isOnRelay : e_tb 1353 = some (Cond.code yX11_isOnRelay cX11_isOnRelay 2 (some FieldType.boolean)) := by decide +kernel
theorem m_X11_isOnRelay {X : e_XT} {d : Nat} {args : List Value} {S : e_SS} {Q : e_Rt → e_SS → Prop} (hlen : (e_slx args).length ≤ 2) (j : s_w X d K_X11_isOnRelay 0 (e_ent0 args 2) [] S (fun r S' => e_rcr (some FieldType.boolean) r = true ∧ Q r S')) : s_c X d 199 args S Q := c_of rM_X11_isOnRelay rC_X11_isOnRelay rfl (fun _ => by contradiction) hlen j
abbrev r_X11_drive : e_MT := ((yX11_drive, 15), (2, false), (1360, 1358, 35, 1359))
abbrev K_X11_drive : e_KT := (15, false, cX11_drive, 5, [])
theorem rM_X11_drive : e_M[200]? = some r_X11_drive := by rfl
theorem rC_X11_drive : e_tb 1360 = some (Cond.code yX11_drive cX11_drive 5 (some FieldType.int)) := by decide +kernel
theorem m_X11_drive {X : e_XT} {d : Nat} {args : List Value} {S : e_SS} {Q : e_Rt → e_SS → Prop} (hlen : (e_slx args).length ≤ 5) (j : s_w X d K_X11_drive 0 (e_ent0 args 5) [] S (fun r S' => e_rcr (some FieldType.int) r = true ∧ Q r S')) : s_c X d 200 args S Q := c_of rM_X11_drive rC_X11_drive rfl (fun _ => by contradiction) hlen j
abbrev r_X11_record : e_MT := ((yX11_record, 15), (1, false), (1473, 1471, 35, 1472))
abbrev K_X11_record : e_KT := (15, false, cX11_record, 3, [])
theorem rM_X11_record : e_M[201]? = some r_X11_record := by rfl
theorem rC_X11_record : e_tb 1473 = some (Cond.code yX11_record cX11_record 3 (some FieldType.char)) := by decide +kernel
theorem m_X11_record {X : e_XT} {d : Nat} {args : List Value} {S : e_SS} {Q : e_Rt → e_SS → Prop} (hlen : (e_slx args).length ≤ 3) (j : s_w X d K_X11_record 0 (e_ent0 args 3) [] S (fun r S' => e_rcr (some FieldType.char) r = true ∧ Q r S')) : s_c X d 201 args S Q := c_of rM_X11_record rC_X11_record rfl (fun _ => by contradiction) hlen j
abbrev r_X11_playBack : e_MT := ((yX11_playBack, 15), (0, false), (1489, 1487, 35, 1488))
abbrev K_X11_playBack : e_KT := (15, false, cX11_playBack, 4, [])
theorem rM_X11_playBack : e_M[202]? = some r_X11_playBack := by rfl
theorem rC_X11_playBack : e_tb 1489 = some (Cond.code yX11_playBack cX11_playBack 4 (some FieldType.int)) := by decide +kernel
theorem m_X11_playBack {X : e_XT} {d : Nat} {args : List Value} {S : e_SS} {Q : e_Rt → e_SS → Prop} (hlen : (e_slx args).length ≤ 4) (j : s_w X d K_X11_playBack 0 (e_ent0 args 4) [] S (fun r S' => e_rcr (some FieldType.int) r = true ∧ Q r S')) : s_c X d 202 args S Q := c_of rM_X11_playBack rC_X11_playBack rfl (fun _ => by contradiction) hlen j
abbrev r_X11_realise : e_MT := ((yX11_realise, 15), (2, false), (1395, 1393, 35, 1394))
abbrev K_X11_realise : e_KT := (15, false, cX11_realise, 5, [])
theorem rM_X11_realise : e_M[204]? = some r_X11_realise := by rfl
theorem rC_X11_realise : e_tb 1395 = some (Cond.code yX11_realise cX11_realise 5 (some FieldType.int)) := by decide +kernel
theorem m_X11_realise {X : e_XT} {d : Nat} {args : List Value} {S : e_SS} {Q : e_Rt → e_SS → Prop} (hlen : (e_slx args).length ≤ 5) (j : s_w X d K_X11_realise 0 (e_ent0 args 5) [] S (fun r S' => e_rcr (some FieldType.int) r = true ∧ Q r S')) : s_c X d 204 args S Q := c_of rM_X11_realise rC_X11_realise rfl (fun _ => by contradiction) hlen j
abbrev r_X11_speakingShare : e_MT := ((yX11_speakingShare, 15), (0, false), (1672, 1670, 35, 1671))
abbrev K_X11_speakingShare : e_KT := (15, false, cX11_speakingShare, 2, [])
theorem rM_X11_speakingShare : e_M[205]? = some r_X11_speakingShare := by rfl
theorem rC_X11_speakingShare : e_tb 1672 = some (Cond.code yX11_speakingShare cX11_speakingShare 2 (some FieldType.float)) := by decide +kernel
theorem m_X11_speakingShare {X : e_XT} {d : Nat} {args : List Value} {S : e_SS} {Q : e_Rt → e_SS → Prop} (hlen : (e_slx args).length ≤ 2) (j : s_w X d K_X11_speakingShare 0 (e_ent0 args 2) [] S (fun r S' => e_rcr (some FieldType.float) r = true ∧ Q r S')) : s_c X d 205 args S Q := c_of rM_X11_speakingShare rC_X11_speakingShare rfl (fun _ => by contradiction) hlen j
abbrev r_X11_meanPitch : e_MT := ((yX11_meanPitch, 15), (0, false), (1687, 1685, 35, 1686))
abbrev K_X11_meanPitch : e_KT := (15, false, cX11_meanPitch, 2, [])
theorem rM_X11_meanPitch : e_M[206]? = some r_X11_meanPitch := by rfl
theorem rC_X11_meanPitch : e_tb 1687 = some (Cond.code yX11_meanPitch cX11_meanPitch 2 (some FieldType.double)) := by decide +kernel
theorem m_X11_meanPitch {X : e_XT} {d : Nat} {args : List Value} {S : e_SS} {Q : e_Rt → e_SS → Prop} (hlen : (e_slx args).length ≤ 2) (j : s_w X d K_X11_meanPitch 0 (e_ent0 args 2) [] S (fun r S' => e_rcr (some FieldType.double) r = true ∧ Q r S')) : s_c X d 206 args S Q := c_of rM_X11_meanPitch rC_X11_meanPitch rfl (fun _ => by contradiction) hlen j
abbrev r_Jxc12de_init_da8c8 : e_MT := ((yJxc12de_init_da8c8, 22), (0, false), (125, 124, 41, 9999))
abbrev K_Jxc12de_init_da8c8 : e_KT := (22, true, cJxc12de_init_da8c8, 1, [])
theorem rM_Jxc12de_init_da8c8 : e_M[373]? = some r_Jxc12de_init_da8c8 := by rfl
theorem rC_Jxc12de_init_da8c8 : e_tb 125 = some (Cond.code yJxc12de_init_da8c8 cJxc12de_init_da8c8 1 (none)) := by decide +kernel
theorem m_Jxc12de_init_da8c8 {X : e_XT} {d : Nat} {args : List Value} {S : e_SS} {Q : e_Rt → e_SS → Prop} (hlen : (e_slx args).length ≤ 1) (j : s_w X d K_Jxc12de_init_da8c8 0 (e_ent0 args 1) [] S (fun r S' => e_rcr (none) r = true ∧ Q r S')) : s_c X d 373 args S Q := c_of rM_Jxc12de_init_da8c8 rC_Jxc12de_init_da8c8 rfl (fun _ => by rfl) hlen j
abbrev r_Jxa1e45_init_da8c8 : e_MT := ((yJxa1e45_init_da8c8, 23), (0, false), (128, 127, 40, 9999))
abbrev K_Jxa1e45_init_da8c8 : e_KT := (23, true, cJxa1e45_init_da8c8, 1, [])
theorem rM_Jxa1e45_init_da8c8 : e_M[374]? = some r_Jxa1e45_init_da8c8 := by rfl
theorem rC_Jxa1e45_init_da8c8 : e_tb 128 = some (Cond.code yJxa1e45_init_da8c8 cJxa1e45_init_da8c8 1 (none)) := by decide +kernel
theorem m_Jxa1e45_init_da8c8 {X : e_XT} {d : Nat} {args : List Value} {S : e_SS} {Q : e_Rt → e_SS → Prop} (hlen : (e_slx args).length ≤ 1) (j : s_w X d K_Jxa1e45_init_da8c8 0 (e_ent0 args 1) [] S (fun r S' => e_rcr (none) r = true ∧ Q r S')) : s_c X d 374 args S Q := c_of rM_Jxa1e45_init_da8c8 rC_Jxa1e45_init_da8c8 rfl (fun _ => by rfl) hlen j
abbrev r_J7_fill_53178 : e_MT := ((yJ7_fill_53178, 25), (2, true), (92, 91, 38, 9999))
abbrev K_J7_fill_53178 : e_KT := (25, false, cJ7_fill_53178, 4, [])
theorem rM_J7_fill_53178 : e_M[375]? = some r_J7_fill_53178 := by rfl
theorem rC_J7_fill_53178 : e_tb 92 = some (Cond.code yJ7_fill_53178 cJ7_fill_53178 4 (none)) := by decide +kernel
theorem m_J7_fill_53178 {X : e_XT} {d : Nat} {args : List Value} {S : e_SS} {Q : e_Rt → e_SS → Prop} (hlen : (e_slx args).length ≤ 4) (j : s_w X d K_J7_fill_53178 0 (e_ent0 args 4) [] S (fun r S' => e_rcr (none) r = true ∧ Q r S')) : s_c X d 375 args S Q := c_of rM_J7_fill_53178 rC_J7_fill_53178 rfl (fun _ => by contradiction) hlen j
abbrev r_J7_copyOf_1904c : e_MT := ((yJ7_copyOf_1904c, 25), (2, true), (241, 240, 38, 9999))
abbrev K_J7_copyOf_1904c : e_KT := (25, false, cJ7_copyOf_1904c, 2, [])
theorem rM_J7_copyOf_1904c : e_M[376]? = some r_J7_copyOf_1904c := by rfl
theorem rC_J7_copyOf_1904c : e_tb 241 = some (Cond.code yJ7_copyOf_1904c cJ7_copyOf_1904c 2 (some (FieldType.array (FieldType.object "java/lang/Object")))) := by decide +kernel
theorem m_J7_copyOf_1904c {X : e_XT} {d : Nat} {args : List Value} {S : e_SS} {Q : e_Rt → e_SS → Prop} (hlen : (e_slx args).length ≤ 2) (j : s_w X d K_J7_copyOf_1904c 0 (e_ent0 args 2) [] S (fun r S' => e_rcr (some (FieldType.array (FieldType.object "java/lang/Object"))) r = true ∧ Q r S')) : s_c X d 376 args S Q := c_of rM_J7_copyOf_1904c rC_J7_copyOf_1904c rfl (fun _ => by contradiction) hlen j
abbrev r_J7_copyOf_6403c : e_MT := ((yJ7_copyOf_6403c, 25), (3, true), (268, 267, 38, 9999))
abbrev K_J7_copyOf_6403c : e_KT := (25, false, cJ7_copyOf_6403c, 4, [])
theorem rM_J7_copyOf_6403c : e_M[377]? = some r_J7_copyOf_6403c := by rfl
theorem rC_J7_copyOf_6403c : e_tb 268 = some (Cond.code yJ7_copyOf_6403c cJ7_copyOf_6403c 4 (some (FieldType.array (FieldType.object "java/lang/Object")))) := by decide +kernel
theorem m_J7_copyOf_6403c {X : e_XT} {d : Nat} {args : List Value} {S : e_SS} {Q : e_Rt → e_SS → Prop} (hlen : (e_slx args).length ≤ 4) (j : s_w X d K_J7_copyOf_6403c 0 (e_ent0 args 4) [] S (fun r S' => e_rcr (some (FieldType.array (FieldType.object "java/lang/Object"))) r = true ∧ Q r S')) : s_c X d 377 args S Q := c_of rM_J7_copyOf_6403c rC_J7_copyOf_6403c rfl (fun _ => by contradiction) hlen j
abbrev r_J7_copyOf_59c91 : e_MT := ((yJ7_copyOf_59c91, 25), (2, true), (861, 860, 38, 9999))
abbrev K_J7_copyOf_59c91 : e_KT := (25, false, cJ7_copyOf_59c91, 3, [])
theorem rM_J7_copyOf_59c91 : e_M[378]? = some r_J7_copyOf_59c91 := by rfl
theorem rC_J7_copyOf_59c91 : e_tb 861 = some (Cond.code yJ7_copyOf_59c91 cJ7_copyOf_59c91 3 (some (FieldType.array FieldType.int))) := by decide +kernel
theorem m_J7_copyOf_59c91 {X : e_XT} {d : Nat} {args : List Value} {S : e_SS} {Q : e_Rt → e_SS → Prop} (hlen : (e_slx args).length ≤ 3) (j : s_w X d K_J7_copyOf_59c91 0 (e_ent0 args 3) [] S (fun r S' => e_rcr (some (FieldType.array FieldType.int)) r = true ∧ Q r S')) : s_c X d 378 args S Q := c_of rM_J7_copyOf_59c91 rC_J7_copyOf_59c91 rfl (fun _ => by contradiction) hlen j
abbrev r_J15_checkIndex_7cf53 : e_MT := ((yJ15_checkIndex_7cf53, 26), (2, true), (504, 503, 58, 9999))
abbrev K_J15_checkIndex_7cf53 : e_KT := (26, false, cJ15_checkIndex_7cf53, 2, [])
theorem rM_J15_checkIndex_7cf53 : e_M[383]? = some r_J15_checkIndex_7cf53 := by rfl
theorem rC_J15_checkIndex_7cf53 : e_tb 504 = some (Cond.code yJ15_checkIndex_7cf53 cJ15_checkIndex_7cf53 2 (some FieldType.int)) := by decide +kernel
theorem m_J15_checkIndex_7cf53 {X : e_XT} {d : Nat} {args : List Value} {S : e_SS} {Q : e_Rt → e_SS → Prop} (hlen : (e_slx args).length ≤ 2) (j : s_w X d K_J15_checkIndex_7cf53 0 (e_ent0 args 2) [] S (fun r S' => e_rcr (some FieldType.int) r = true ∧ Q r S')) : s_c X d 383 args S Q := c_of rM_J15_checkIndex_7cf53 rC_J15_checkIndex_7cf53 rfl (fun _ => by contradiction) hlen j
abbrev r_J3_checkIndex_8e157 : e_MT := ((yJ3_checkIndex_8e157, 27), (3, true), (507, 506, 59, 9999))
abbrev K_J3_checkIndex_8e157 : e_KT := (27, false, cJ3_checkIndex_8e157, 3, [])
theorem rM_J3_checkIndex_8e157 : e_M[384]? = some r_J3_checkIndex_8e157 := by rfl
theorem rC_J3_checkIndex_8e157 : e_tb 507 = some (Cond.code yJ3_checkIndex_8e157 cJ3_checkIndex_8e157 3 (some FieldType.int)) := by decide +kernel
theorem m_J3_checkIndex_8e157 {X : e_XT} {d : Nat} {args : List Value} {S : e_SS} {Q : e_Rt → e_SS → Prop} (hlen : (e_slx args).length ≤ 3) (j : s_w X d K_J3_checkIndex_8e157 0 (e_ent0 args 3) [] S (fun r S' => e_rcr (some FieldType.int) r = true ∧ Q r S')) : s_c X d 384 args S Q := c_of rM_J3_checkIndex_8e157 rC_J3_checkIndex_8e157 rfl (fun _ => by contradiction) hlen j
abbrev r_J8_newLength_cabcc : e_MT := ((yJ8_newLength_cabcc, 28), (3, true), (231, 230, 45, 9999))
abbrev K_J8_newLength_cabcc : e_KT := (28, false, cJ8_newLength_cabcc, 4, [])
theorem rM_J8_newLength_cabcc : e_M[387]? = some r_J8_newLength_cabcc := by rfl
theorem rC_J8_newLength_cabcc : e_tb 231 = some (Cond.code yJ8_newLength_cabcc cJ8_newLength_cabcc 4 (some FieldType.int)) := by decide +kernel
theorem m_J8_newLength_cabcc {X : e_XT} {d : Nat} {args : List Value} {S : e_SS} {Q : e_Rt → e_SS → Prop} (hlen : (e_slx args).length ≤ 4) (j : s_w X d K_J8_newLength_cabcc 0 (e_ent0 args 4) [] S (fun r S' => e_rcr (some FieldType.int) r = true ∧ Q r S')) : s_c X d 387 args S Q := c_of rM_J8_newLength_cabcc rC_J8_newLength_cabcc rfl (fun _ => by contradiction) hlen j
abbrev r_J8_hugeLength_7cf53 : e_MT := ((yJ8_hugeLength_7cf53, 28), (2, true), (238, 237, 45, 9999))
abbrev K_J8_hugeLength_7cf53 : e_KT := (28, false, cJ8_hugeLength_7cf53, 3, [])
theorem rM_J8_hugeLength_7cf53 : e_M[388]? = some r_J8_hugeLength_7cf53 := by rfl
theorem rC_J8_hugeLength_7cf53 : e_tb 238 = some (Cond.code yJ8_hugeLength_7cf53 cJ8_hugeLength_7cf53 3 (some FieldType.int)) := by decide +kernel
theorem m_J8_hugeLength_7cf53 {X : e_XT} {d : Nat} {args : List Value} {S : e_SS} {Q : e_Rt → e_SS → Prop} (hlen : (e_slx args).length ≤ 3) (j : s_w X d K_J8_hugeLength_7cf53 0 (e_ent0 args 3) [] S (fun r S' => e_rcr (some FieldType.int) r = true ∧ Q r S')) : s_c X d 388 args S Q := c_of rM_J8_hugeLength_7cf53 rC_J8_hugeLength_7cf53 rfl (fun _ => by contradiction) hlen j
abbrev r_J13_bitCount_95d88 : e_MT := ((yJ13_bitCount_95d88, 29), (1, true), (1181, 1180, 67, 9999))
abbrev K_J13_bitCount_95d88 : e_KT := (29, false, cJ13_bitCount_95d88, 2, [])
theorem rM_J13_bitCount_95d88 : e_M[389]? = some r_J13_bitCount_95d88 := by rfl
theorem rC_J13_bitCount_95d88 : e_tb 1181 = some (Cond.code yJ13_bitCount_95d88 cJ13_bitCount_95d88 2 (some FieldType.int)) := by decide +kernel
theorem m_J13_bitCount_95d88 {X : e_XT} {d : Nat} {args : List Value} {S : e_SS} {Q : e_Rt → e_SS → Prop} (hlen : (e_slx args).length ≤ 2) (j : s_w X d K_J13_bitCount_95d88 0 (e_ent0 args 2) [] S (fun r S' => e_rcr (some FieldType.int) r = true ∧ Q r S')) : s_c X d 389 args S Q := c_of rM_J13_bitCount_95d88 rC_J13_bitCount_95d88 rfl (fun _ => by contradiction) hlen j
abbrev r_J9_max_7cf53 : e_MT := ((yJ9_max_7cf53, 30), (2, true), (234, 233, 46, 9999))
abbrev K_J9_max_7cf53 : e_KT := (30, false, cJ9_max_7cf53, 2, [])
theorem rM_J9_max_7cf53 : e_M[390]? = some r_J9_max_7cf53 := by rfl
theorem rC_J9_max_7cf53 : e_tb 234 = some (Cond.code yJ9_max_7cf53 cJ9_max_7cf53 2 (some FieldType.int)) := by decide +kernel
theorem m_J9_max_7cf53 {X : e_XT} {d : Nat} {args : List Value} {S : e_SS} {Q : e_Rt → e_SS → Prop} (hlen : (e_slx args).length ≤ 2) (j : s_w X d K_J9_max_7cf53 0 (e_ent0 args 2) [] S (fun r S' => e_rcr (some FieldType.int) r = true ∧ Q r S')) : s_c X d 390 args S Q := c_of rM_J9_max_7cf53 rC_J9_max_7cf53 rfl (fun _ => by contradiction) hlen j
abbrev r_J9_min_7cf53 : e_MT := ((yJ9_min_7cf53, 30), (2, true), (274, 273, 46, 9999))
abbrev K_J9_min_7cf53 : e_KT := (30, false, cJ9_min_7cf53, 2, [])
theorem rM_J9_min_7cf53 : e_M[391]? = some r_J9_min_7cf53 := by rfl
theorem rC_J9_min_7cf53 : e_tb 274 = some (Cond.code yJ9_min_7cf53 cJ9_min_7cf53 2 (some FieldType.int)) := by decide +kernel
theorem m_J9_min_7cf53 {X : e_XT} {d : Nat} {args : List Value} {S : e_SS} {Q : e_Rt → e_SS → Prop} (hlen : (e_slx args).length ≤ 2) (j : s_w X d K_J9_min_7cf53 0 (e_ent0 args 2) [] S (fun r S' => e_rcr (some FieldType.int) r = true ∧ Q r S')) : s_c X d 391 args S Q := c_of rM_J9_min_7cf53 rC_J9_min_7cf53 rfl (fun _ => by contradiction) hlen j
abbrev r_J9_abs_0f7a4 : e_MT := ((yJ9_abs_0f7a4, 30), (1, true), (1447, 1446, 46, 9999))
abbrev K_J9_abs_0f7a4 : e_KT := (30, false, cJ9_abs_0f7a4, 1, [])
theorem rM_J9_abs_0f7a4 : e_M[392]? = some r_J9_abs_0f7a4 := by rfl
theorem rC_J9_abs_0f7a4 : e_tb 1447 = some (Cond.code yJ9_abs_0f7a4 cJ9_abs_0f7a4 1 (some FieldType.int)) := by decide +kernel
theorem m_J9_abs_0f7a4 {X : e_XT} {d : Nat} {args : List Value} {S : e_SS} {Q : e_Rt → e_SS → Prop} (hlen : (e_slx args).length ≤ 1) (j : s_w X d K_J9_abs_0f7a4 0 (e_ent0 args 1) [] S (fun r S' => e_rcr (some FieldType.int) r = true ∧ Q r S')) : s_c X d 392 args S Q := c_of rM_J9_abs_0f7a4 rC_J9_abs_0f7a4 rfl (fun _ => by contradiction) hlen j
abbrev r_J0_charAt_5068e : e_MT := ((yJ0_charAt_5068e, 31), (1, false), (1290, 1288, 62, 1289))
abbrev K_J0_charAt_5068e : e_KT := (31, false, cJ0_charAt_5068e, 2, [])
theorem rM_J0_charAt_5068e : e_M[393]? = some r_J0_charAt_5068e := by rfl
theorem rC_J0_charAt_5068e : e_tb 1290 = some (Cond.code yJ0_charAt_5068e cJ0_charAt_5068e 2 (some FieldType.char)) := by decide +kernel
theorem m_J0_charAt_5068e {X : e_XT} {d : Nat} {args : List Value} {S : e_SS} {Q : e_Rt → e_SS → Prop} (hlen : (e_slx args).length ≤ 2) (j : s_w X d K_J0_charAt_5068e 0 (e_ent0 args 2) [] S (fun r S' => e_rcr (some FieldType.char) r = true ∧ Q r S')) : s_c X d 393 args S Q := c_of rM_J0_charAt_5068e rC_J0_charAt_5068e rfl (fun _ => by contradiction) hlen j
abbrev r_J0_isLatin1_aae02 : e_MT := ((yJ0_isLatin1_aae02, 31), (0, false), (1294, 1292, 62, 1293))
abbrev K_J0_isLatin1_aae02 : e_KT := (31, false, cJ0_isLatin1_aae02, 1, [])
theorem rM_J0_isLatin1_aae02 : e_M[394]? = some r_J0_isLatin1_aae02 := by rfl
theorem rC_J0_isLatin1_aae02 : e_tb 1294 = some (Cond.code yJ0_isLatin1_aae02 cJ0_isLatin1_aae02 1 (some FieldType.boolean)) := by decide +kernel
theorem m_J0_isLatin1_aae02 {X : e_XT} {d : Nat} {args : List Value} {S : e_SS} {Q : e_Rt → e_SS → Prop} (hlen : (e_slx args).length ≤ 1) (j : s_w X d K_J0_isLatin1_aae02 0 (e_ent0 args 1) [] S (fun r S' => e_rcr (some FieldType.boolean) r = true ∧ Q r S')) : s_c X d 394 args S Q := c_of rM_J0_isLatin1_aae02 rC_J0_isLatin1_aae02 rfl (fun _ => by contradiction) hlen j
abbrev r_J0_checkIndex_df160 : e_MT := ((yJ0_checkIndex_df160, 31), (2, true), (1302, 1301, 62, 9999))
abbrev K_J0_checkIndex_df160 : e_KT := (31, false, cJ0_checkIndex_df160, 2, [])
theorem rM_J0_checkIndex_df160 : e_M[395]? = some r_J0_checkIndex_df160 := by rfl
theorem rC_J0_checkIndex_df160 : e_tb 1302 = some (Cond.code yJ0_checkIndex_df160 cJ0_checkIndex_df160 2 (none)) := by decide +kernel
theorem m_J0_checkIndex_df160 {X : e_XT} {d : Nat} {args : List Value} {S : e_SS} {Q : e_Rt → e_SS → Prop} (hlen : (e_slx args).length ≤ 2) (j : s_w X d K_J0_checkIndex_df160 0 (e_ent0 args 2) [] S (fun r S' => e_rcr (none) r = true ∧ Q r S')) : s_c X d 395 args S Q := c_of rM_J0_checkIndex_df160 rC_J0_checkIndex_df160 rfl (fun _ => by contradiction) hlen j
abbrev r_J1_charAt_3b067 : e_MT := ((yJ1_charAt_3b067, 32), (2, true), (1299, 1298, 64, 9999))
abbrev K_J1_charAt_3b067 : e_KT := (32, false, cJ1_charAt_3b067, 2, [])
theorem rM_J1_charAt_3b067 : e_M[396]? = some r_J1_charAt_3b067 := by rfl
theorem rC_J1_charAt_3b067 : e_tb 1299 = some (Cond.code yJ1_charAt_3b067 cJ1_charAt_3b067 2 (some FieldType.char)) := by decide +kernel
theorem m_J1_charAt_3b067 {X : e_XT} {d : Nat} {args : List Value} {S : e_SS} {Q : e_Rt → e_SS → Prop} (hlen : (e_slx args).length ≤ 2) (j : s_w X d K_J1_charAt_3b067 0 (e_ent0 args 2) [] S (fun r S' => e_rcr (some FieldType.char) r = true ∧ Q r S')) : s_c X d 396 args S Q := c_of rM_J1_charAt_3b067 rC_J1_charAt_3b067 rfl (fun _ => by contradiction) hlen j
abbrev r_L_pick : e_MT := ((yL_pick, 21), (3, true), (587, 586, 34, 9999))
abbrev K_L_pick : e_KT := (21, false, cL_pick, 3, [])
theorem rM_L_pick : e_M[397]? = some r_L_pick := by rfl
theorem rC_L_pick : e_tb 587 = some (Cond.code yL_pick cL_pick 3 (some FieldType.int)) := by rfl
theorem m_L_pick {X : e_XT} {d : Nat} {args : List Value} {S : e_SS} {Q : e_Rt → e_SS → Prop} (hlen : (e_slx args).length ≤ 3) (j : s_w X d K_L_pick 0 (e_ent0 args 3) [] S (fun r S' => e_rcr (some FieldType.int) r = true ∧ Q r S')) : s_c X d 397 args S Q := c_of rM_L_pick rC_L_pick rfl (fun _ => by contradiction) hlen j
abbrev r_L_cell : e_MT := ((yL_cell, 21), (2, true), (590, 589, 34, 9999))
abbrev K_L_cell : e_KT := (21, false, cL_cell, 2, [])
theorem rM_L_cell : e_M[398]? = some r_L_cell := by rfl
theorem rC_L_cell : e_tb 590 = some (Cond.code yL_cell cL_cell 2 (some FieldType.int)) := by rfl
theorem m_L_cell {X : e_XT} {d : Nat} {args : List Value} {S : e_SS} {Q : e_Rt → e_SS → Prop} (hlen : (e_slx args).length ≤ 2) (j : s_w X d K_L_cell 0 (e_ent0 args 2) [] S (fun r S' => e_rcr (some FieldType.int) r = true ∧ Q r S')) : s_c X d 398 args S Q := c_of rM_L_cell rC_L_cell rfl (fun _ => by contradiction) hlen j
abbrev r_L_rank : e_MT := ((yL_rank, 21), (8, true), (594, 593, 34, 9999))
abbrev K_L_rank : e_KT := (21, false, cL_rank, 9, [(0, 15, 16, 20), (0, 15, 21, 22)])
theorem rM_L_rank : e_M[399]? = some r_L_rank := by rfl
theorem rC_L_rank : e_tb 594 = some (Cond.codeWith yL_rank cL_rank 9 (some FieldType.int) [(0, 15, 16, 20), (0, 15, 21, 22)]) := by rfl
theorem m_L_rank {X : e_XT} {d : Nat} {args : List Value} {S : e_SS} {Q : e_Rt → e_SS → Prop} (hlen : (e_slx args).length ≤ 9) (j : s_w X d K_L_rank 0 (e_ent0 args 9) [] S (fun r S' => e_rcr (some FieldType.int) r = true ∧ Q r S')) : s_c X d 399 args S Q := c_of rM_L_rank rC_L_rank rfl (fun _ => by contradiction) hlen j
abbrev r_L_stop : e_MT := ((yL_stop, 21), (2, true), (892, 891, 34, 9999))
abbrev K_L_stop : e_KT := (21, false, cL_stop, 3, [(0, 5, 6, 28), (0, 5, 10, 22)])
theorem rM_L_stop : e_M[400]? = some r_L_stop := by rfl
theorem rC_L_stop : e_tb 892 = some (Cond.codeWith yL_stop cL_stop 3 (some FieldType.int) [(0, 5, 6, 28), (0, 5, 10, 22)]) := by rfl
theorem m_L_stop {X : e_XT} {d : Nat} {args : List Value} {S : e_SS} {Q : e_Rt → e_SS → Prop} (hlen : (e_slx args).length ≤ 3) (j : s_w X d K_L_stop 0 (e_ent0 args 3) [] S (fun r S' => e_rcr (some FieldType.int) r = true ∧ Q r S')) : s_c X d 400 args S Q := c_of rM_L_stop rC_L_stop rfl (fun _ => by contradiction) hlen j
abbrev r_L_row : e_MT := ((yL_row, 21), (6, true), (984, 983, 34, 9999))
abbrev K_L_row : e_KT := (21, false, cL_row, 7, [(0, 11, 12, 28), (0, 11, 17, 20), (0, 11, 22, 34), (0, 11, 27, 22)])
theorem rM_L_row : e_M[401]? = some r_L_row := by rfl
theorem rC_L_row : e_tb 984 = some (Cond.codeWith yL_row cL_row 7 (some FieldType.int) [(0, 11, 12, 28), (0, 11, 17, 20), (0, 11, 22, 34), (0, 11, 27, 22)]) := by rfl
theorem m_L_row {X : e_XT} {d : Nat} {args : List Value} {S : e_SS} {Q : e_Rt → e_SS → Prop} (hlen : (e_slx args).length ≤ 7) (j : s_w X d K_L_row 0 (e_ent0 args 7) [] S (fun r S' => e_rcr (some FieldType.int) r = true ∧ Q r S')) : s_c X d 401 args S Q := c_of rM_L_row rC_L_row rfl (fun _ => by contradiction) hlen j
abbrev r_L_coupler : e_MT := ((yL_coupler, 21), (5, true), (1031, 1030, 34, 9999))
abbrev K_L_coupler : e_KT := (21, false, cL_coupler, 6, [(0, 9, 10, 28), (0, 9, 15, 20), (0, 9, 20, 22)])
theorem rM_L_coupler : e_M[402]? = some r_L_coupler := by rfl
theorem rC_L_coupler : e_tb 1031 = some (Cond.codeWith yL_coupler cL_coupler 6 (some FieldType.int) [(0, 9, 10, 28), (0, 9, 15, 20), (0, 9, 20, 22)]) := by rfl
theorem m_L_coupler {X : e_XT} {d : Nat} {args : List Value} {S : e_SS} {Q : e_Rt → e_SS → Prop} (hlen : (e_slx args).length ≤ 6) (j : s_w X d K_L_coupler 0 (e_ent0 args 6) [] S (fun r S' => e_rcr (some FieldType.int) r = true ∧ Q r S')) : s_c X d 402 args S Q := c_of rM_L_coupler rC_L_coupler rfl (fun _ => by contradiction) hlen j
abbrev r_L_tremulant : e_MT := ((yL_tremulant, 21), (2, true), (1041, 1040, 34, 9999))
abbrev K_L_tremulant : e_KT := (21, false, cL_tremulant, 3, [(0, 5, 6, 28), (0, 5, 10, 22)])
theorem rM_L_tremulant : e_M[403]? = some r_L_tremulant := by rfl
theorem rC_L_tremulant : e_tb 1041 = some (Cond.codeWith yL_tremulant cL_tremulant 3 (some FieldType.int) [(0, 5, 6, 28), (0, 5, 10, 22)]) := by rfl
theorem m_L_tremulant {X : e_XT} {d : Nat} {args : List Value} {S : e_SS} {Q : e_Rt → e_SS → Prop} (hlen : (e_slx args).length ≤ 3) (j : s_w X d K_L_tremulant 0 (e_ent0 args 3) [] S (fun r S' => e_rcr (some FieldType.int) r = true ∧ Q r S')) : s_c X d 403 args S Q := c_of rM_L_tremulant rC_L_tremulant rfl (fun _ => by contradiction) hlen j
abbrev r_L_pass : e_MT := ((yL_pass, 21), (2, true), (1048, 1047, 34, 9999))
abbrev K_L_pass : e_KT := (21, false, cL_pass, 3, [(0, 5, 6, 20)])
theorem rM_L_pass : e_M[404]? = some r_L_pass := by rfl
theorem rC_L_pass : e_tb 1048 = some (Cond.codeWith yL_pass cL_pass 3 (some FieldType.int) [(0, 5, 6, 20)]) := by rfl
theorem m_L_pass {X : e_XT} {d : Nat} {args : List Value} {S : e_SS} {Q : e_Rt → e_SS → Prop} (hlen : (e_slx args).length ≤ 3) (j : s_w X d K_L_pass 0 (e_ent0 args 3) [] S (fun r S' => e_rcr (some FieldType.int) r = true ∧ Q r S')) : s_c X d 404 args S Q := c_of rM_L_pass rC_L_pass rfl (fun _ => by contradiction) hlen j
abbrev r_L_acts : e_MT := ((yL_acts, 21), (3, true), (1068, 1067, 34, 9999))
abbrev K_L_acts : e_KT := (21, false, cL_acts, 9, [])
theorem rM_L_acts : e_M[405]? = some r_L_acts := by rfl
theorem rC_L_acts : e_tb 1068 = some (Cond.code yL_acts cL_acts 9 (some FieldType.boolean)) := by rfl
theorem m_L_acts {X : e_XT} {d : Nat} {args : List Value} {S : e_SS} {Q : e_Rt → e_SS → Prop} (hlen : (e_slx args).length ≤ 9) (j : s_w X d K_L_acts 0 (e_ent0 args 9) [] S (fun r S' => e_rcr (some FieldType.boolean) r = true ∧ Q r S')) : s_c X d 405 args S Q := c_of rM_L_acts rC_L_acts rfl (fun _ => by contradiction) hlen j
abbrev r_L_key : e_MT := ((yL_key, 21), (4, true), (1071, 1070, 34, 9999))
abbrev K_L_key : e_KT := (21, false, cL_key, 5, [(0, 15, 16, 28)])
theorem rM_L_key : e_M[406]? = some r_L_key := by rfl
theorem rC_L_key : e_tb 1071 = some (Cond.codeWith yL_key cL_key 5 (some FieldType.int) [(0, 15, 16, 28)]) := by rfl
theorem m_L_key {X : e_XT} {d : Nat} {args : List Value} {S : e_SS} {Q : e_Rt → e_SS → Prop} (hlen : (e_slx args).length ≤ 5) (j : s_w X d K_L_key 0 (e_ent0 args 5) [] S (fun r S' => e_rcr (some FieldType.int) r = true ∧ Q r S')) : s_c X d 406 args S Q := c_of rM_L_key rC_L_key rfl (fun _ => by contradiction) hlen j
abbrev r_L_isDown : e_MT := ((yL_isDown, 21), (3, true), (1102, 1101, 34, 9999))
abbrev K_L_isDown : e_KT := (21, false, cL_isDown, 4, [(0, 14, 15, 28)])
theorem rM_L_isDown : e_M[407]? = some r_L_isDown := by rfl
theorem rC_L_isDown : e_tb 1102 = some (Cond.codeWith yL_isDown cL_isDown 4 (some FieldType.int) [(0, 14, 15, 28)]) := by rfl
theorem m_L_isDown {X : e_XT} {d : Nat} {args : List Value} {S : e_SS} {Q : e_Rt → e_SS → Prop} (hlen : (e_slx args).length ≤ 4) (j : s_w X d K_L_isDown 0 (e_ent0 args 4) [] S (fun r S' => e_rcr (some FieldType.int) r = true ∧ Q r S')) : s_c X d 407 args S Q := c_of rM_L_isDown rC_L_isDown rfl (fun _ => by contradiction) hlen j
abbrev r_L_draw : e_MT := ((yL_draw, 21), (3, true), (1109, 1108, 34, 9999))
abbrev K_L_draw : e_KT := (21, false, cL_draw, 4, [(0, 14, 15, 28)])
theorem rM_L_draw : e_M[408]? = some r_L_draw := by rfl
theorem rC_L_draw : e_tb 1109 = some (Cond.codeWith yL_draw cL_draw 4 (some FieldType.int) [(0, 14, 15, 28)]) := by rfl
theorem m_L_draw {X : e_XT} {d : Nat} {args : List Value} {S : e_SS} {Q : e_Rt → e_SS → Prop} (hlen : (e_slx args).length ≤ 4) (j : s_w X d K_L_draw 0 (e_ent0 args 4) [] S (fun r S' => e_rcr (some FieldType.int) r = true ∧ Q r S')) : s_c X d 408 args S Q := c_of rM_L_draw rC_L_draw rfl (fun _ => by contradiction) hlen j
abbrev r_L_isDrawn : e_MT := ((yL_isDrawn, 21), (2, true), (1116, 1115, 34, 9999))
abbrev K_L_isDrawn : e_KT := (21, false, cL_isDrawn, 3, [(0, 13, 14, 28)])
theorem rM_L_isDrawn : e_M[409]? = some r_L_isDrawn := by rfl
theorem rC_L_isDrawn : e_tb 1116 = some (Cond.codeWith yL_isDrawn cL_isDrawn 3 (some FieldType.int) [(0, 13, 14, 28)]) := by rfl
theorem m_L_isDrawn {X : e_XT} {d : Nat} {args : List Value} {S : e_SS} {Q : e_Rt → e_SS → Prop} (hlen : (e_slx args).length ≤ 3) (j : s_w X d K_L_isDrawn 0 (e_ent0 args 3) [] S (fun r S' => e_rcr (some FieldType.int) r = true ∧ Q r S')) : s_c X d 409 args S Q := c_of rM_L_isDrawn rC_L_isDrawn rfl (fun _ => by contradiction) hlen j
abbrev r_L_set : e_MT := ((yL_set, 21), (3, true), (1133, 1132, 34, 9999))
abbrev K_L_set : e_KT := (21, false, cL_set, 4, [(0, 6, 7, 28), (0, 6, 11, 34)])
theorem rM_L_set : e_M[410]? = some r_L_set := by rfl
theorem rC_L_set : e_tb 1133 = some (Cond.codeWith yL_set cL_set 4 (some FieldType.int) [(0, 6, 7, 28), (0, 6, 11, 34)]) := by rfl
theorem m_L_set {X : e_XT} {d : Nat} {args : List Value} {S : e_SS} {Q : e_Rt → e_SS → Prop} (hlen : (e_slx args).length ≤ 4) (j : s_w X d K_L_set 0 (e_ent0 args 4) [] S (fun r S' => e_rcr (some FieldType.int) r = true ∧ Q r S')) : s_c X d 410 args S Q := c_of rM_L_set rC_L_set rfl (fun _ => by contradiction) hlen j
abbrev r_L_push : e_MT := ((yL_push, 21), (3, true), (1187, 1186, 34, 9999))
abbrev K_L_push : e_KT := (21, false, cL_push, 4, [(0, 6, 7, 28), (0, 6, 11, 129)])
theorem rM_L_push : e_M[411]? = some r_L_push := by rfl
theorem rC_L_push : e_tb 1187 = some (Cond.codeWith yL_push cL_push 4 (some FieldType.int) [(0, 6, 7, 28), (0, 6, 11, 129)]) := by rfl
theorem m_L_push {X : e_XT} {d : Nat} {args : List Value} {S : e_SS} {Q : e_Rt → e_SS → Prop} (hlen : (e_slx args).length ≤ 4) (j : s_w X d K_L_push 0 (e_ent0 args 4) [] S (fun r S' => e_rcr (some FieldType.int) r = true ∧ Q r S')) : s_c X d 411 args S Q := c_of rM_L_push rC_L_push rfl (fun _ => by contradiction) hlen j
abbrev r_L_lock : e_MT := ((yL_lock, 21), (3, true), (1231, 1230, 34, 9999))
abbrev K_L_lock : e_KT := (21, false, cL_lock, 4, [(0, 14, 15, 28)])
theorem rM_L_lock : e_M[412]? = some r_L_lock := by rfl
theorem rC_L_lock : e_tb 1231 = some (Cond.codeWith yL_lock cL_lock 4 (some FieldType.int) [(0, 14, 15, 28)]) := by rfl
theorem m_L_lock {X : e_XT} {d : Nat} {args : List Value} {S : e_SS} {Q : e_Rt → e_SS → Prop} (hlen : (e_slx args).length ≤ 4) (j : s_w X d K_L_lock 0 (e_ent0 args 4) [] S (fun r S' => e_rcr (some FieldType.int) r = true ∧ Q r S')) : s_c X d 412 args S Q := c_of rM_L_lock rC_L_lock rfl (fun _ => by contradiction) hlen j
abbrev r_L_scope : e_MT := ((yL_scope, 21), (3, true), (1238, 1237, 34, 9999))
abbrev K_L_scope : e_KT := (21, false, cL_scope, 4, [(0, 14, 15, 28)])
theorem rM_L_scope : e_M[413]? = some r_L_scope := by rfl
theorem rC_L_scope : e_tb 1238 = some (Cond.codeWith yL_scope cL_scope 4 (some FieldType.int) [(0, 14, 15, 28)]) := by rfl
theorem m_L_scope {X : e_XT} {d : Nat} {args : List Value} {S : e_SS} {Q : e_Rt → e_SS → Prop} (hlen : (e_slx args).length ≤ 4) (j : s_w X d K_L_scope 0 (e_ent0 args 4) [] S (fun r S' => e_rcr (some FieldType.int) r = true ∧ Q r S')) : s_c X d 413 args S Q := c_of rM_L_scope rC_L_scope rfl (fun _ => by contradiction) hlen j
abbrev r_L_frame : e_MT := ((yL_frame, 21), (2, true), (1245, 1244, 34, 9999))
abbrev K_L_frame : e_KT := (21, false, cL_frame, 3, [(0, 5, 6, 28), (0, 5, 10, 22)])
theorem rM_L_frame : e_M[414]? = some r_L_frame := by rfl
theorem rC_L_frame : e_tb 1245 = some (Cond.codeWith yL_frame cL_frame 3 (some FieldType.int) [(0, 5, 6, 28), (0, 5, 10, 22)]) := by rfl
theorem m_L_frame {X : e_XT} {d : Nat} {args : List Value} {S : e_SS} {Q : e_Rt → e_SS → Prop} (hlen : (e_slx args).length ≤ 3) (j : s_w X d K_L_frame 0 (e_ent0 args 3) [] S (fun r S' => e_rcr (some FieldType.int) r = true ∧ Q r S')) : s_c X d 414 args S Q := c_of rM_L_frame rC_L_frame rfl (fun _ => by contradiction) hlen j
abbrev r_L_turnTo : e_MT := ((yL_turnTo, 21), (2, true), (1268, 1267, 34, 9999))
abbrev K_L_turnTo : e_KT := (21, false, cL_turnTo, 3, [(0, 5, 6, 28)])
theorem rM_L_turnTo : e_M[415]? = some r_L_turnTo := by rfl
theorem rC_L_turnTo : e_tb 1268 = some (Cond.codeWith yL_turnTo cL_turnTo 3 (some FieldType.int) [(0, 5, 6, 28)]) := by rfl
theorem m_L_turnTo {X : e_XT} {d : Nat} {args : List Value} {S : e_SS} {Q : e_Rt → e_SS → Prop} (hlen : (e_slx args).length ≤ 3) (j : s_w X d K_L_turnTo 0 (e_ent0 args 3) [] S (fun r S' => e_rcr (some FieldType.int) r = true ∧ Q r S')) : s_c X d 415 args S Q := c_of rM_L_turnTo rC_L_turnTo rfl (fun _ => by contradiction) hlen j
abbrev r_L_wire : e_MT := ((yL_wire, 21), (5, true), (1327, 1326, 34, 9999))
abbrev K_L_wire : e_KT := (21, false, cL_wire, 6, [(0, 17, 18, 28), (0, 17, 23, 20)])
theorem rM_L_wire : e_M[416]? = some r_L_wire := by rfl
theorem rC_L_wire : e_tb 1327 = some (Cond.codeWith yL_wire cL_wire 6 (some FieldType.int) [(0, 17, 18, 28), (0, 17, 23, 20)]) := by rfl
theorem m_L_wire {X : e_XT} {d : Nat} {args : List Value} {S : e_SS} {Q : e_Rt → e_SS → Prop} (hlen : (e_slx args).length ≤ 6) (j : s_w X d K_L_wire 0 (e_ent0 args 6) [] S (fun r S' => e_rcr (some FieldType.int) r = true ∧ Q r S')) : s_c X d 416 args S Q := c_of rM_L_wire rC_L_wire rfl (fun _ => by contradiction) hlen j
abbrev r_L_isOnRelay : e_MT := ((yL_isOnRelay, 21), (2, true), (1349, 1348, 34, 9999))
abbrev K_L_isOnRelay : e_KT := (21, false, cL_isOnRelay, 3, [(0, 13, 14, 28)])
theorem rM_L_isOnRelay : e_M[417]? = some r_L_isOnRelay := by rfl
theorem rC_L_isOnRelay : e_tb 1349 = some (Cond.codeWith yL_isOnRelay cL_isOnRelay 3 (some FieldType.int) [(0, 13, 14, 28)]) := by rfl
theorem m_L_isOnRelay {X : e_XT} {d : Nat} {args : List Value} {S : e_SS} {Q : e_Rt → e_SS → Prop} (hlen : (e_slx args).length ≤ 3) (j : s_w X d K_L_isOnRelay 0 (e_ent0 args 3) [] S (fun r S' => e_rcr (some FieldType.int) r = true ∧ Q r S')) : s_c X d 417 args S Q := c_of rM_L_isOnRelay rC_L_isOnRelay rfl (fun _ => by contradiction) hlen j
abbrev r_L_drive : e_MT := ((yL_drive, 21), (3, true), (1356, 1355, 34, 9999))
abbrev K_L_drive : e_KT := (21, false, cL_drive, 4, [(0, 6, 7, 28)])
theorem rM_L_drive : e_M[418]? = some r_L_drive := by rfl
theorem rC_L_drive : e_tb 1356 = some (Cond.codeWith yL_drive cL_drive 4 (some FieldType.int) [(0, 6, 7, 28)]) := by rfl
theorem m_L_drive {X : e_XT} {d : Nat} {args : List Value} {S : e_SS} {Q : e_Rt → e_SS → Prop} (hlen : (e_slx args).length ≤ 4) (j : s_w X d K_L_drive 0 (e_ent0 args 4) [] S (fun r S' => e_rcr (some FieldType.int) r = true ∧ Q r S')) : s_c X d 418 args S Q := c_of rM_L_drive rC_L_drive rfl (fun _ => by contradiction) hlen j
abbrev r_L_setReversible : e_MT := ((yL_setReversible, 21), (3, true), (1363, 1362, 34, 9999))
abbrev K_L_setReversible : e_KT := (21, false, cL_setReversible, 4, [(0, 6, 7, 28), (0, 6, 11, 34)])
theorem rM_L_setReversible : e_M[419]? = some r_L_setReversible := by rfl
theorem rC_L_setReversible : e_tb 1363 = some (Cond.codeWith yL_setReversible cL_setReversible 4 (some FieldType.int) [(0, 6, 7, 28), (0, 6, 11, 34)]) := by rfl
theorem m_L_setReversible {X : e_XT} {d : Nat} {args : List Value} {S : e_SS} {Q : e_Rt → e_SS → Prop} (hlen : (e_slx args).length ≤ 4) (j : s_w X d K_L_setReversible 0 (e_ent0 args 4) [] S (fun r S' => e_rcr (some FieldType.int) r = true ∧ Q r S')) : s_c X d 419 args S Q := c_of rM_L_setReversible rC_L_setReversible rfl (fun _ => by contradiction) hlen j
abbrev r_L_pushReversible : e_MT := ((yL_pushReversible, 21), (2, true), (1382, 1381, 34, 9999))
abbrev K_L_pushReversible : e_KT := (21, false, cL_pushReversible, 3, [(0, 13, 14, 28), (0, 13, 18, 129)])
theorem rM_L_pushReversible : e_M[420]? = some r_L_pushReversible := by rfl
theorem rC_L_pushReversible : e_tb 1382 = some (Cond.codeWith yL_pushReversible cL_pushReversible 3 (some FieldType.int) [(0, 13, 14, 28), (0, 13, 18, 129)]) := by rfl
theorem m_L_pushReversible {X : e_XT} {d : Nat} {args : List Value} {S : e_SS} {Q : e_Rt → e_SS → Prop} (hlen : (e_slx args).length ≤ 3) (j : s_w X d K_L_pushReversible 0 (e_ent0 args 3) [] S (fun r S' => e_rcr (some FieldType.int) r = true ∧ Q r S')) : s_c X d 420 args S Q := c_of rM_L_pushReversible rC_L_pushReversible rfl (fun _ => by contradiction) hlen j
abbrev r_L_realise : e_MT := ((yL_realise, 21), (3, true), (1391, 1390, 34, 9999))
abbrev K_L_realise : e_KT := (21, false, cL_realise, 4, [(0, 6, 7, 28), (0, 6, 11, 20), (0, 6, 15, 34)])
theorem rM_L_realise : e_M[421]? = some r_L_realise := by rfl
theorem rC_L_realise : e_tb 1391 = some (Cond.codeWith yL_realise cL_realise 4 (some FieldType.int) [(0, 6, 7, 28), (0, 6, 11, 20), (0, 6, 15, 34)]) := by rfl
theorem m_L_realise {X : e_XT} {d : Nat} {args : List Value} {S : e_SS} {Q : e_Rt → e_SS → Prop} (hlen : (e_slx args).length ≤ 4) (j : s_w X d K_L_realise 0 (e_ent0 args 4) [] S (fun r S' => e_rcr (some FieldType.int) r = true ∧ Q r S')) : s_c X d 421 args S Q := c_of rM_L_realise rC_L_realise rfl (fun _ => by contradiction) hlen j
abbrev r_L_record : e_MT := ((yL_record, 21), (2, true), (1469, 1468, 34, 9999))
abbrev K_L_record : e_KT := (21, false, cL_record, 3, [(0, 5, 6, 20)])
theorem rM_L_record : e_M[422]? = some r_L_record := by rfl
theorem rC_L_record : e_tb 1469 = some (Cond.codeWith yL_record cL_record 3 (some FieldType.int) [(0, 5, 6, 20)]) := by rfl
theorem m_L_record {X : e_XT} {d : Nat} {args : List Value} {S : e_SS} {Q : e_Rt → e_SS → Prop} (hlen : (e_slx args).length ≤ 3) (j : s_w X d K_L_record 0 (e_ent0 args 3) [] S (fun r S' => e_rcr (some FieldType.int) r = true ∧ Q r S')) : s_c X d 422 args S Q := c_of rM_L_record rC_L_record rfl (fun _ => by contradiction) hlen j
abbrev r_L_playBack : e_MT := ((yL_playBack, 21), (1, true), (1485, 1484, 34, 9999))
abbrev K_L_playBack : e_KT := (21, false, cL_playBack, 2, [(0, 4, 5, 129)])
theorem rM_L_playBack : e_M[423]? = some r_L_playBack := by rfl
theorem rC_L_playBack : e_tb 1485 = some (Cond.codeWith yL_playBack cL_playBack 2 (some FieldType.int) [(0, 4, 5, 129)]) := by rfl
theorem m_L_playBack {X : e_XT} {d : Nat} {args : List Value} {S : e_SS} {Q : e_Rt → e_SS → Prop} (hlen : (e_slx args).length ≤ 2) (j : s_w X d K_L_playBack 0 (e_ent0 args 2) [] S (fun r S' => e_rcr (some FieldType.int) r = true ∧ Q r S')) : s_c X d 423 args S Q := c_of rM_L_playBack rC_L_playBack rfl (fun _ => by contradiction) hlen j
abbrev r_L_fault : e_MT := ((yL_fault, 21), (4, true), (1522, 1521, 34, 9999))
abbrev K_L_fault : e_KT := (21, false, cL_fault, 5, [(0, 7, 8, 28), (0, 7, 13, 20)])
theorem rM_L_fault : e_M[424]? = some r_L_fault := by rfl
theorem rC_L_fault : e_tb 1522 = some (Cond.codeWith yL_fault cL_fault 5 (some FieldType.int) [(0, 7, 8, 28), (0, 7, 13, 20)]) := by rfl
theorem m_L_fault {X : e_XT} {d : Nat} {args : List Value} {S : e_SS} {Q : e_Rt → e_SS → Prop} (hlen : (e_slx args).length ≤ 5) (j : s_w X d K_L_fault 0 (e_ent0 args 5) [] S (fun r S' => e_rcr (some FieldType.int) r = true ∧ Q r S')) : s_c X d 424 args S Q := c_of rM_L_fault rC_L_fault rfl (fun _ => by contradiction) hlen j
abbrev r_L_hunt : e_MT := ((yL_hunt, 21), (2, true), (1536, 1535, 34, 9999))
abbrev K_L_hunt : e_KT := (21, false, cL_hunt, 3, [(0, 5, 6, 28)])
theorem rM_L_hunt : e_M[425]? = some r_L_hunt := by rfl
theorem rC_L_hunt : e_tb 1536 = some (Cond.codeWith yL_hunt cL_hunt 3 (some FieldType.int) [(0, 5, 6, 28)]) := by rfl
theorem m_L_hunt {X : e_XT} {d : Nat} {args : List Value} {S : e_SS} {Q : e_Rt → e_SS → Prop} (hlen : (e_slx args).length ≤ 3) (j : s_w X d K_L_hunt 0 (e_ent0 args 3) [] S (fun r S' => e_rcr (some FieldType.int) r = true ∧ Q r S')) : s_c X d 425 args S Q := c_of rM_L_hunt rC_L_hunt rfl (fun _ => by contradiction) hlen j
abbrev r_L_crescendo : e_MT := ((yL_crescendo, 21), (2, true), (1553, 1552, 34, 9999))
abbrev K_L_crescendo : e_KT := (21, false, cL_crescendo, 3, [(0, 5, 6, 20)])
theorem rM_L_crescendo : e_M[426]? = some r_L_crescendo := by rfl
theorem rC_L_crescendo : e_tb 1553 = some (Cond.codeWith yL_crescendo cL_crescendo 3 (some FieldType.int) [(0, 5, 6, 20)]) := by rfl
theorem m_L_crescendo {X : e_XT} {d : Nat} {args : List Value} {S : e_SS} {Q : e_Rt → e_SS → Prop} (hlen : (e_slx args).length ≤ 3) (j : s_w X d K_L_crescendo 0 (e_ent0 args 3) [] S (fun r S' => e_rcr (some FieldType.int) r = true ∧ Q r S')) : s_c X d 426 args S Q := c_of rM_L_crescendo rC_L_crescendo rfl (fun _ => by contradiction) hlen j
abbrev r_L_stage : e_MT := ((yL_stage, 21), (3, true), (1560, 1559, 34, 9999))
abbrev K_L_stage : e_KT := (21, false, cL_stage, 4, [(0, 6, 7, 28), (0, 6, 11, 20), (0, 6, 15, 34)])
theorem rM_L_stage : e_M[427]? = some r_L_stage := by rfl
theorem rC_L_stage : e_tb 1560 = some (Cond.codeWith yL_stage cL_stage 4 (some FieldType.int) [(0, 6, 7, 28), (0, 6, 11, 20), (0, 6, 15, 34)]) := by rfl
theorem m_L_stage {X : e_XT} {d : Nat} {args : List Value} {S : e_SS} {Q : e_Rt → e_SS → Prop} (hlen : (e_slx args).length ≤ 4) (j : s_w X d K_L_stage 0 (e_ent0 args 4) [] S (fun r S' => e_rcr (some FieldType.int) r = true ∧ Q r S')) : s_c X d 427 args S Q := c_of rM_L_stage rC_L_stage rfl (fun _ => by contradiction) hlen j
abbrev r_L_tune : e_MT := ((yL_tune, 21), (4, true), (1567, 1566, 34, 9999))
abbrev K_L_tune : e_KT := (21, false, cL_tune, 5, [(0, 7, 8, 28), (0, 7, 13, 20)])
theorem rM_L_tune : e_M[428]? = some r_L_tune := by rfl
theorem rC_L_tune : e_tb 1567 = some (Cond.codeWith yL_tune cL_tune 5 (some FieldType.int) [(0, 7, 8, 28), (0, 7, 13, 20)]) := by rfl
theorem m_L_tune {X : e_XT} {d : Nat} {args : List Value} {S : e_SS} {Q : e_Rt → e_SS → Prop} (hlen : (e_slx args).length ≤ 5) (j : s_w X d K_L_tune 0 (e_ent0 args 5) [] S (fun r S' => e_rcr (some FieldType.int) r = true ∧ Q r S')) : s_c X d 428 args S Q := c_of rM_L_tune rC_L_tune rfl (fun _ => by contradiction) hlen j
abbrev r_L_tuneTo : e_MT := ((yL_tuneTo, 21), (5, true), (1574, 1573, 34, 9999))
abbrev K_L_tuneTo : e_KT := (21, false, cL_tuneTo, 6, [(0, 9, 10, 28)])
theorem rM_L_tuneTo : e_M[429]? = some r_L_tuneTo := by rfl
theorem rC_L_tuneTo : e_tb 1574 = some (Cond.codeWith yL_tuneTo cL_tuneTo 6 (some FieldType.int) [(0, 9, 10, 28)]) := by rfl
theorem m_L_tuneTo {X : e_XT} {d : Nat} {args : List Value} {S : e_SS} {Q : e_Rt → e_SS → Prop} (hlen : (e_slx args).length ≤ 6) (j : s_w X d K_L_tuneTo 0 (e_ent0 args 6) [] S (fun r S' => e_rcr (some FieldType.int) r = true ∧ Q r S')) : s_c X d 429 args S Q := c_of rM_L_tuneTo rC_L_tuneTo rfl (fun _ => by contradiction) hlen j
abbrev r_L_supply : e_MT := ((yL_supply, 21), (3, true), (1589, 1588, 34, 9999))
abbrev K_L_supply : e_KT := (21, false, cL_supply, 4, [(0, 6, 7, 28), (0, 6, 11, 20)])
theorem rM_L_supply : e_M[430]? = some r_L_supply := by rfl
theorem rC_L_supply : e_tb 1589 = some (Cond.codeWith yL_supply cL_supply 4 (some FieldType.int) [(0, 6, 7, 28), (0, 6, 11, 20)]) := by rfl
theorem m_L_supply {X : e_XT} {d : Nat} {args : List Value} {S : e_SS} {Q : e_Rt → e_SS → Prop} (hlen : (e_slx args).length ≤ 4) (j : s_w X d K_L_supply 0 (e_ent0 args 4) [] S (fun r S' => e_rcr (some FieldType.int) r = true ∧ Q r S')) : s_c X d 430 args S Q := c_of rM_L_supply rC_L_supply rfl (fun _ => by contradiction) hlen j
abbrev r_L_isStep : e_MT := ((yL_isStep, 21), (1, true), (1600, 1599, 34, 9999))
abbrev K_L_isStep : e_KT := (21, false, cL_isStep, 2, [])
theorem rM_L_isStep : e_M[431]? = some r_L_isStep := by rfl
theorem rC_L_isStep : e_tb 1600 = some (Cond.code yL_isStep cL_isStep 2 (some FieldType.boolean)) := by rfl
theorem m_L_isStep {X : e_XT} {d : Nat} {args : List Value} {S : e_SS} {Q : e_Rt → e_SS → Prop} (hlen : (e_slx args).length ≤ 2) (j : s_w X d K_L_isStep 0 (e_ent0 args 2) [] S (fun r S' => e_rcr (some FieldType.boolean) r = true ∧ Q r S')) : s_c X d 431 args S Q := c_of rM_L_isStep rC_L_isStep rfl (fun _ => by contradiction) hlen j
abbrev r_L_arePipes : e_MT := ((yL_arePipes, 21), (1, true), (1607, 1606, 34, 9999))
abbrev K_L_arePipes : e_KT := (21, false, cL_arePipes, 8, [])
theorem rM_L_arePipes : e_M[432]? = some r_L_arePipes := by rfl
theorem rC_L_arePipes : e_tb 1607 = some (Cond.code yL_arePipes cL_arePipes 8 (some FieldType.boolean)) := by rfl
theorem m_L_arePipes {X : e_XT} {d : Nat} {args : List Value} {S : e_SS} {Q : e_Rt → e_SS → Prop} (hlen : (e_slx args).length ≤ 8) (j : s_w X d K_L_arePipes 0 (e_ent0 args 8) [] S (fun r S' => e_rcr (some FieldType.boolean) r = true ∧ Q r S')) : s_c X d 432 args S Q := c_of rM_L_arePipes rC_L_arePipes rfl (fun _ => by contradiction) hlen j
abbrev r_L_wind : e_MT := ((yL_wind, 21), (2, true), (1610, 1609, 34, 9999))
abbrev K_L_wind : e_KT := (21, false, cL_wind, 3, [(0, 5, 6, 28)])
theorem rM_L_wind : e_M[433]? = some r_L_wind := by rfl
theorem rC_L_wind : e_tb 1610 = some (Cond.codeWith yL_wind cL_wind 3 (some FieldType.int) [(0, 5, 6, 28)]) := by rfl
theorem m_L_wind {X : e_XT} {d : Nat} {args : List Value} {S : e_SS} {Q : e_Rt → e_SS → Prop} (hlen : (e_slx args).length ≤ 3) (j : s_w X d K_L_wind 0 (e_ent0 args 3) [] S (fun r S' => e_rcr (some FieldType.int) r = true ∧ Q r S')) : s_c X d 433 args S Q := c_of rM_L_wind rC_L_wind rfl (fun _ => by contradiction) hlen j
abbrev r_L_reasons : e_MT := ((yL_reasons, 21), (3, true), (1617, 1616, 34, 9999))
abbrev K_L_reasons : e_KT := (21, false, cL_reasons, 4, [(0, 6, 7, 28)])
theorem rM_L_reasons : e_M[434]? = some r_L_reasons := by rfl
theorem rC_L_reasons : e_tb 1617 = some (Cond.codeWith yL_reasons cL_reasons 4 (some FieldType.int) [(0, 6, 7, 28)]) := by rfl
theorem m_L_reasons {X : e_XT} {d : Nat} {args : List Value} {S : e_SS} {Q : e_Rt → e_SS → Prop} (hlen : (e_slx args).length ≤ 4) (j : s_w X d K_L_reasons 0 (e_ent0 args 4) [] S (fun r S' => e_rcr (some FieldType.int) r = true ∧ Q r S')) : s_c X d 434 args S Q := c_of rM_L_reasons rC_L_reasons rfl (fun _ => by contradiction) hlen j
abbrev r_L_speaks : e_MT := ((yL_speaks, 21), (3, true), (1625, 1624, 34, 9999))
abbrev K_L_speaks : e_KT := (21, false, cL_speaks, 4, [(0, 14, 15, 28)])
theorem rM_L_speaks : e_M[435]? = some r_L_speaks := by rfl
theorem rC_L_speaks : e_tb 1625 = some (Cond.codeWith yL_speaks cL_speaks 4 (some FieldType.int) [(0, 14, 15, 28)]) := by rfl
theorem m_L_speaks {X : e_XT} {d : Nat} {args : List Value} {S : e_SS} {Q : e_Rt → e_SS → Prop} (hlen : (e_slx args).length ≤ 4) (j : s_w X d K_L_speaks 0 (e_ent0 args 4) [] S (fun r S' => e_rcr (some FieldType.int) r = true ∧ Q r S')) : s_c X d 435 args S Q := c_of rM_L_speaks rC_L_speaks rfl (fun _ => by contradiction) hlen j
abbrev r_L_begun : e_MT := ((yL_begun, 21), (3, true), (1632, 1631, 34, 9999))
abbrev K_L_begun : e_KT := (21, false, cL_begun, 4, [(0, 6, 7, 28)])
theorem rM_L_begun : e_M[436]? = some r_L_begun := by rfl
theorem rC_L_begun : e_tb 1632 = some (Cond.codeWith yL_begun cL_begun 4 (some FieldType.int) [(0, 6, 7, 28)]) := by rfl
theorem m_L_begun {X : e_XT} {d : Nat} {args : List Value} {S : e_SS} {Q : e_Rt → e_SS → Prop} (hlen : (e_slx args).length ≤ 4) (j : s_w X d K_L_begun 0 (e_ent0 args 4) [] S (fun r S' => e_rcr (some FieldType.int) r = true ∧ Q r S')) : s_c X d 436 args S Q := c_of rM_L_begun rC_L_begun rfl (fun _ => by contradiction) hlen j
abbrev r_L_reasonsAnew : e_MT := ((yL_reasonsAnew, 21), (3, true), (1639, 1638, 34, 9999))
abbrev K_L_reasonsAnew : e_KT := (21, false, cL_reasonsAnew, 4, [(0, 6, 7, 28)])
theorem rM_L_reasonsAnew : e_M[437]? = some r_L_reasonsAnew := by rfl
theorem rC_L_reasonsAnew : e_tb 1639 = some (Cond.codeWith yL_reasonsAnew cL_reasonsAnew 4 (some FieldType.int) [(0, 6, 7, 28)]) := by rfl
theorem m_L_reasonsAnew {X : e_XT} {d : Nat} {args : List Value} {S : e_SS} {Q : e_Rt → e_SS → Prop} (hlen : (e_slx args).length ≤ 4) (j : s_w X d K_L_reasonsAnew 0 (e_ent0 args 4) [] S (fun r S' => e_rcr (some FieldType.int) r = true ∧ Q r S')) : s_c X d 437 args S Q := c_of rM_L_reasonsAnew rC_L_reasonsAnew rfl (fun _ => by contradiction) hlen j
abbrev r_L_pitch : e_MT := ((yL_pitch, 21), (3, true), (1647, 1646, 34, 9999))
abbrev K_L_pitch : e_KT := (21, false, cL_pitch, 4, [(0, 6, 7, 28)])
theorem rM_L_pitch : e_M[438]? = some r_L_pitch := by rfl
theorem rC_L_pitch : e_tb 1647 = some (Cond.codeWith yL_pitch cL_pitch 4 (some FieldType.int) [(0, 6, 7, 28)]) := by rfl
theorem m_L_pitch {X : e_XT} {d : Nat} {args : List Value} {S : e_SS} {Q : e_Rt → e_SS → Prop} (hlen : (e_slx args).length ≤ 4) (j : s_w X d K_L_pitch 0 (e_ent0 args 4) [] S (fun r S' => e_rcr (some FieldType.int) r = true ∧ Q r S')) : s_c X d 438 args S Q := c_of rM_L_pitch rC_L_pitch rfl (fun _ => by contradiction) hlen j
abbrev r_L_speakingShare : e_MT := ((yL_speakingShare, 21), (1, true), (1654, 1653, 34, 9999))
abbrev K_L_speakingShare : e_KT := (21, false, cL_speakingShare, 2, [(0, 4, 5, 169)])
theorem rM_L_speakingShare : e_M[439]? = some r_L_speakingShare := by rfl
theorem rC_L_speakingShare : e_tb 1654 = some (Cond.codeWith yL_speakingShare cL_speakingShare 2 (some FieldType.float) [(0, 4, 5, 169)]) := by rfl
theorem m_L_speakingShare {X : e_XT} {d : Nat} {args : List Value} {S : e_SS} {Q : e_Rt → e_SS → Prop} (hlen : (e_slx args).length ≤ 2) (j : s_w X d K_L_speakingShare 0 (e_ent0 args 2) [] S (fun r S' => e_rcr (some FieldType.float) r = true ∧ Q r S')) : s_c X d 439 args S Q := c_of rM_L_speakingShare rC_L_speakingShare rfl (fun _ => by contradiction) hlen j
abbrev r_L_meanPitch : e_MT := ((yL_meanPitch, 21), (1, true), (1683, 1682, 34, 9999))
abbrev K_L_meanPitch : e_KT := (21, false, cL_meanPitch, 2, [(0, 4, 5, 169)])
theorem rM_L_meanPitch : e_M[440]? = some r_L_meanPitch := by rfl
theorem rC_L_meanPitch : e_tb 1683 = some (Cond.codeWith yL_meanPitch cL_meanPitch 2 (some FieldType.double) [(0, 4, 5, 169)]) := by rfl
theorem m_L_meanPitch {X : e_XT} {d : Nat} {args : List Value} {S : e_SS} {Q : e_Rt → e_SS → Prop} (hlen : (e_slx args).length ≤ 2) (j : s_w X d K_L_meanPitch 0 (e_ent0 args 2) [] S (fun r S' => e_rcr (some FieldType.double) r = true ∧ Q r S')) : s_c X d 440 args S Q := c_of rM_L_meanPitch rC_L_meanPitch rfl (fun _ => by contradiction) hlen j
abbrev r_L_areKnobs : e_MT := ((yL_areKnobs, 21), (1, true), (1714, 1713, 34, 9999))
abbrev K_L_areKnobs : e_KT := (21, false, cL_areKnobs, 5, [])
theorem rM_L_areKnobs : e_M[441]? = some r_L_areKnobs := by rfl
theorem rC_L_areKnobs : e_tb 1714 = some (Cond.code yL_areKnobs cL_areKnobs 5 (some FieldType.boolean)) := by rfl
theorem m_L_areKnobs {X : e_XT} {d : Nat} {args : List Value} {S : e_SS} {Q : e_Rt → e_SS → Prop} (hlen : (e_slx args).length ≤ 5) (j : s_w X d K_L_areKnobs 0 (e_ent0 args 5) [] S (fun r S' => e_rcr (some FieldType.boolean) r = true ∧ Q r S')) : s_c X d 441 args S Q := c_of rM_L_areKnobs rC_L_areKnobs rfl (fun _ => by contradiction) hlen j
abbrev r_L_isOn : e_MT := ((yL_isOn, 21), (2, true), (1717, 1716, 34, 9999))
abbrev K_L_isOn : e_KT := (21, false, cL_isOn, 3, [(0, 13, 14, 28), (0, 13, 18, 34)])
theorem rM_L_isOn : e_M[442]? = some r_L_isOn := by rfl
theorem rC_L_isOn : e_tb 1717 = some (Cond.codeWith yL_isOn cL_isOn 3 (some FieldType.int) [(0, 13, 14, 28), (0, 13, 18, 34)]) := by rfl
theorem m_L_isOn {X : e_XT} {d : Nat} {args : List Value} {S : e_SS} {Q : e_Rt → e_SS → Prop} (hlen : (e_slx args).length ≤ 3) (j : s_w X d K_L_isOn 0 (e_ent0 args 3) [] S (fun r S' => e_rcr (some FieldType.int) r = true ∧ Q r S')) : s_c X d 442 args S Q := c_of rM_L_isOn rC_L_isOn rfl (fun _ => by contradiction) hlen j
abbrev r_L_areQuiet : e_MT := ((yL_areQuiet, 21), (1, true), (1725, 1724, 34, 9999))
abbrev K_L_areQuiet : e_KT := (21, false, cL_areQuiet, 5, [])
theorem rM_L_areQuiet : e_M[443]? = some r_L_areQuiet := by rfl
theorem rC_L_areQuiet : e_tb 1725 = some (Cond.code yL_areQuiet cL_areQuiet 5 (some FieldType.boolean)) := by rfl
theorem m_L_areQuiet {X : e_XT} {d : Nat} {args : List Value} {S : e_SS} {Q : e_Rt → e_SS → Prop} (hlen : (e_slx args).length ≤ 5) (j : s_w X d K_L_areQuiet 0 (e_ent0 args 5) [] S (fun r S' => e_rcr (some FieldType.boolean) r = true ∧ Q r S')) : s_c X d 443 args S Q := c_of rM_L_areQuiet rC_L_areQuiet rfl (fun _ => by contradiction) hlen j
abbrev r_L_isOpen : e_MT := ((yL_isOpen, 21), (3, true), (1728, 1727, 34, 9999))
abbrev K_L_isOpen : e_KT := (21, false, cL_isOpen, 4, [(0, 14, 15, 28)])
theorem rM_L_isOpen : e_M[444]? = some r_L_isOpen := by rfl
theorem rC_L_isOpen : e_tb 1728 = some (Cond.codeWith yL_isOpen cL_isOpen 4 (some FieldType.int) [(0, 14, 15, 28)]) := by rfl
theorem m_L_isOpen {X : e_XT} {d : Nat} {args : List Value} {S : e_SS} {Q : e_Rt → e_SS → Prop} (hlen : (e_slx args).length ≤ 4) (j : s_w X d K_L_isOpen 0 (e_ent0 args 4) [] S (fun r S' => e_rcr (some FieldType.int) r = true ∧ Q r S')) : s_c X d 444 args S Q := c_of rM_L_isOpen rC_L_isOpen rfl (fun _ => by contradiction) hlen j
abbrev r_L_isThrown : e_MT := ((yL_isThrown, 21), (1, true), (1735, 1734, 34, 9999))
abbrev K_L_isThrown : e_KT := (21, false, cL_isThrown, 6, [])
theorem rM_L_isThrown : e_M[445]? = some r_L_isThrown := by rfl
theorem rC_L_isThrown : e_tb 1735 = some (Cond.code yL_isThrown cL_isThrown 6 (some FieldType.boolean)) := by rfl
theorem m_L_isThrown {X : e_XT} {d : Nat} {args : List Value} {S : e_SS} {Q : e_Rt → e_SS → Prop} (hlen : (e_slx args).length ≤ 6) (j : s_w X d K_L_isThrown 0 (e_ent0 args 6) [] S (fun r S' => e_rcr (some FieldType.boolean) r = true ∧ Q r S')) : s_c X d 445 args S Q := c_of rM_L_isThrown rC_L_isThrown rfl (fun _ => by contradiction) hlen j
abbrev r_L_cross : e_MT := ((yL_cross, 21), (4, true), (1738, 1737, 34, 9999))
abbrev K_L_cross : e_KT := (21, false, cL_cross, 5, [(0, 7, 8, 28), (0, 7, 13, 20), (0, 7, 18, 34)])
theorem rM_L_cross : e_M[446]? = some r_L_cross := by rfl
theorem rC_L_cross : e_tb 1738 = some (Cond.codeWith yL_cross cL_cross 5 (some FieldType.int) [(0, 7, 8, 28), (0, 7, 13, 20), (0, 7, 18, 34)]) := by rfl
theorem m_L_cross {X : e_XT} {d : Nat} {args : List Value} {S : e_SS} {Q : e_Rt → e_SS → Prop} (hlen : (e_slx args).length ≤ 5) (j : s_w X d K_L_cross 0 (e_ent0 args 5) [] S (fun r S' => e_rcr (some FieldType.int) r = true ∧ Q r S')) : s_c X d 446 args S Q := c_of rM_L_cross rC_L_cross rfl (fun _ => by contradiction) hlen j
abbrev r_L_box : e_MT := ((yL_box, 21), (3, true), (1758, 1757, 34, 9999))
abbrev K_L_box : e_KT := (21, false, cL_box, 4, [(0, 6, 7, 20)])
theorem rM_L_box : e_M[447]? = some r_L_box := by rfl
theorem rC_L_box : e_tb 1758 = some (Cond.codeWith yL_box cL_box 4 (some FieldType.int) [(0, 6, 7, 20)]) := by rfl
theorem m_L_box {X : e_XT} {d : Nat} {args : List Value} {S : e_SS} {Q : e_Rt → e_SS → Prop} (hlen : (e_slx args).length ≤ 4) (j : s_w X d K_L_box 0 (e_ent0 args 4) [] S (fun r S' => e_rcr (some FieldType.int) r = true ∧ Q r S')) : s_c X d 447 args S Q := c_of rM_L_box rC_L_box rfl (fun _ => by contradiction) hlen j
