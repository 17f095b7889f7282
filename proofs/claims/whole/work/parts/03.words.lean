theorem zt_of {i : Nat} {w : Cond} (h : tables_1[i]? = some w) (g : (k2_isCode w || goodWord w) = true) : w ∈ zT := List.mem_filter.mpr ⟨List.mem_append_right _ (List.mem_of_getElem? h), g⟩
theorem zs_of {i : Nat} {w : Cond} (h : (k2_sels lw_privs)[i]? = some w) (g : (k2_isCode w || goodWord w) = true) : w ∈ zT := List.mem_filter.mpr ⟨List.mem_append_left _ (List.mem_of_getElem? h), g⟩
theorem zn_of {i : Nat} {w : Cond} (h : tables_1[i]? = some w) (g : zIsN w = true) : w ∈ zN := List.mem_filter.mpr ⟨List.mem_append_right _ (List.mem_of_getElem? h), g⟩
theorem zR_le {K K' maxL : Nat} (h : K + 1 ≤ K' ∧ maxL ≤ 21) : (zR K).frames + 1 ≤ (zR K').frames ∧ 8 + (maxL + 11) + (zR K).locals ≤ (zR K').locals := by
  simp only [zR]
  omega
theorem zi_Ar : ∀ w ∈ u_ws R_Ar F_Ar 5, w ∈ zT := by
  intro w hw
  obtain ⟨k, hk, rfl⟩ := List.mem_map.mp hw
  have hk := List.mem_range.mp hk
  match k, hk with
  | 0, _ => exact zt_of (i := 35) (by decide +kernel) rfl
  | 1, _ => exact zt_of (i := 37) (by decide +kernel) rfl
  | 2, _ => exact zt_of (i := 39) (by decide +kernel) rfl
  | 3, _ => exact zt_of (i := 41) (by decide +kernel) rfl
  | 4, _ => exact zt_of (i := 43) (by decide +kernel) rfl
  | k + 5, h => omega
theorem zi_Ce : ∀ w ∈ u_ws R_Ce F_Ce 4, w ∈ zT := by
  intro w hw
  obtain ⟨k, hk, rfl⟩ := List.mem_map.mp hw
  have hk := List.mem_range.mp hk
  match k, hk with
  | 0, _ => exact zt_of (i := 59) (by decide +kernel) rfl
  | 1, _ => exact zt_of (i := 61) (by decide +kernel) rfl
  | 2, _ => exact zt_of (i := 63) (by decide +kernel) rfl
  | 3, _ => exact zt_of (i := 65) (by decide +kernel) rfl
  | k + 4, h => omega
theorem zi_Ro : ∀ w ∈ u_ws R_Ro F_Ro 5, w ∈ zT := by
  intro w hw
  obtain ⟨k, hk, rfl⟩ := List.mem_map.mp hw
  have hk := List.mem_range.mp hk
  match k, hk with
  | 0, _ => exact zt_of (i := 79) (by decide +kernel) rfl
  | 1, _ => exact zt_of (i := 81) (by decide +kernel) rfl
  | 2, _ => exact zt_of (i := 83) (by decide +kernel) rfl
  | 3, _ => exact zt_of (i := 85) (by decide +kernel) rfl
  | 4, _ => exact zt_of (i := 87) (by decide +kernel) rfl
  | k + 5, h => omega
theorem zi_SM : ∀ w ∈ u_ws R_SM F_SM 8, w ∈ zT := by
  intro w hw
  obtain ⟨k, hk, rfl⟩ := List.mem_map.mp hw
  have hk := List.mem_range.mp hk
  match k, hk with
  | 0, _ => exact zt_of (i := 108) (by decide +kernel) rfl
  | 1, _ => exact zt_of (i := 110) (by decide +kernel) rfl
  | 2, _ => exact zt_of (i := 112) (by decide +kernel) rfl
  | 3, _ => exact zt_of (i := 114) (by decide +kernel) rfl
  | 4, _ => exact zt_of (i := 116) (by decide +kernel) rfl
  | 5, _ => exact zt_of (i := 118) (by decide +kernel) rfl
  | 6, _ => exact zt_of (i := 120) (by decide +kernel) rfl
  | 7, _ => exact zt_of (i := 122) (by decide +kernel) rfl
  | k + 8, h => omega
theorem zi_MM : ∀ w ∈ u_ws R_MM F_MM 16, w ∈ zT := by
  intro w hw
  obtain ⟨k, hk, rfl⟩ := List.mem_map.mp hw
  have hk := List.mem_range.mp hk
  match k, hk with
  | 0, _ => exact zt_of (i := 357) (by decide +kernel) rfl
  | 1, _ => exact zt_of (i := 359) (by decide +kernel) rfl
  | 2, _ => exact zt_of (i := 361) (by decide +kernel) rfl
  | 3, _ => exact zt_of (i := 363) (by decide +kernel) rfl
  | 4, _ => exact zt_of (i := 365) (by decide +kernel) rfl
  | 5, _ => exact zt_of (i := 367) (by decide +kernel) rfl
  | 6, _ => exact zt_of (i := 369) (by decide +kernel) rfl
  | 7, _ => exact zt_of (i := 371) (by decide +kernel) rfl
  | 8, _ => exact zt_of (i := 373) (by decide +kernel) rfl
  | 9, _ => exact zt_of (i := 375) (by decide +kernel) rfl
  | 10, _ => exact zt_of (i := 377) (by decide +kernel) rfl
  | 11, _ => exact zt_of (i := 379) (by decide +kernel) rfl
  | 12, _ => exact zt_of (i := 381) (by decide +kernel) rfl
  | 13, _ => exact zt_of (i := 383) (by decide +kernel) rfl
  | 14, _ => exact zt_of (i := 385) (by decide +kernel) rfl
  | 15, _ => exact zt_of (i := 387) (by decide +kernel) rfl
  | k + 16, h => omega
theorem fn_SM_41 : Cond.fieldLinkNest R_SM 41 (F_Ar 0).1 (F_Ar 0).2.1 (F_Ar 0).2.2.1 "ScopedMemory" ∈ zN := zn_of (i := 26) (by decide +kernel) rfl
theorem fl_Ar_18 : Cond.fieldLink R_Ar 18 (F_Ar 0).1 (F_Ar 0).2.1 (F_Ar 0).2.2.1 ∈ zT := zt_of (i := 27) (by decide +kernel) rfl
theorem fl_Ar_21 : Cond.fieldLink R_Ar 21 (F_Ar 1).1 (F_Ar 1).2.1 (F_Ar 1).2.2.1 ∈ zT := zt_of (i := 28) (by decide +kernel) rfl
theorem fn_SM_118 : Cond.fieldLinkNest R_SM 118 (F_Ar 1).1 (F_Ar 1).2.1 (F_Ar 1).2.2.1 "ScopedMemory" ∈ zN := zn_of (i := 29) (by decide +kernel) rfl
theorem fn_SM_73 : Cond.fieldLinkNest R_SM 73 (F_Ar 2).1 (F_Ar 2).2.1 (F_Ar 2).2.2.1 "ScopedMemory" ∈ zN := zn_of (i := 30) (by decide +kernel) rfl
theorem fl_Ar_9 : Cond.fieldLink R_Ar 9 (F_Ar 3).1 (F_Ar 3).2.1 (F_Ar 3).2.2.1 ∈ zT := zt_of (i := 31) (by decide +kernel) rfl
theorem fn_SM_76 : Cond.fieldLinkNest R_SM 76 (F_Ar 3).1 (F_Ar 3).2.1 (F_Ar 3).2.2.1 "ScopedMemory" ∈ zN := zn_of (i := 32) (by decide +kernel) rfl
theorem fl_Ar_15 : Cond.fieldLink R_Ar 15 (F_Ar 4).1 (F_Ar 4).2.1 (F_Ar 4).2.2.1 ∈ zT := zt_of (i := 33) (by decide +kernel) rfl
theorem fn_SM_146 : Cond.fieldLinkNest R_SM 146 (F_Ar 4).1 (F_Ar 4).2.1 (F_Ar 4).2.2.1 "ScopedMemory" ∈ zN := zn_of (i := 34) (by decide +kernel) rfl
theorem fl_Ce_9 : Cond.fieldLink R_Ce 9 (F_Ce 0).1 (F_Ce 0).2.1 (F_Ce 0).2.2.1 ∈ zT := zt_of (i := 52) (by decide +kernel) rfl
theorem fn_SM_143 : Cond.fieldLinkNest R_SM 143 (F_Ce 0).1 (F_Ce 0).2.1 (F_Ce 0).2.2.1 "ScopedMemory" ∈ zN := zn_of (i := 53) (by decide +kernel) rfl
theorem fl_Ce_15 : Cond.fieldLink R_Ce 15 (F_Ce 1).1 (F_Ce 1).2.1 (F_Ce 1).2.2.1 ∈ zT := zt_of (i := 54) (by decide +kernel) rfl
theorem fn_SM_137 : Cond.fieldLinkNest R_SM 137 (F_Ce 1).1 (F_Ce 1).2.1 (F_Ce 1).2.2.1 "ScopedMemory" ∈ zN := zn_of (i := 55) (by decide +kernel) rfl
theorem fl_Ce_19 : Cond.fieldLink R_Ce 19 (F_Ce 2).1 (F_Ce 2).2.1 (F_Ce 2).2.2.1 ∈ zT := zt_of (i := 56) (by decide +kernel) rfl
theorem fn_SM_182 : Cond.fieldLinkNest R_SM 182 (F_Ce 2).1 (F_Ce 2).2.1 (F_Ce 2).2.2.1 "ScopedMemory" ∈ zN := zn_of (i := 57) (by decide +kernel) rfl
theorem fn_SM_155 : Cond.fieldLinkNest R_SM 155 (F_Ce 3).1 (F_Ce 3).2.1 (F_Ce 3).2.2.1 "ScopedMemory" ∈ zN := zn_of (i := 58) (by decide +kernel) rfl
theorem fl_Ro_9 : Cond.fieldLink R_Ro 9 (F_Ro 0).1 (F_Ro 0).2.1 (F_Ro 0).2.2.1 ∈ zT := zt_of (i := 73) (by decide +kernel) rfl
theorem fl_Ro_15 : Cond.fieldLink R_Ro 15 (F_Ro 1).1 (F_Ro 1).2.1 (F_Ro 1).2.2.1 ∈ zT := zt_of (i := 74) (by decide +kernel) rfl
theorem fl_Ro_18 : Cond.fieldLink R_Ro 18 (F_Ro 2).1 (F_Ro 2).2.1 (F_Ro 2).2.2.1 ∈ zT := zt_of (i := 75) (by decide +kernel) rfl
theorem fl_Ro_22 : Cond.fieldLink R_Ro 22 (F_Ro 3).1 (F_Ro 3).2.1 (F_Ro 3).2.2.1 ∈ zT := zt_of (i := 76) (by decide +kernel) rfl
theorem fn_SM_92 : Cond.fieldLinkNest R_SM 92 (F_Ro 3).1 (F_Ro 3).2.1 (F_Ro 3).2.2.1 "ScopedMemory" ∈ zN := zn_of (i := 77) (by decide +kernel) rfl
theorem fn_SM_55 : Cond.fieldLinkNest R_SM 55 (F_Ro 4).1 (F_Ro 4).2.1 (F_Ro 4).2.2.1 "ScopedMemory" ∈ zN := zn_of (i := 78) (by decide +kernel) rfl
theorem fl_SM_11 : Cond.fieldLink R_SM 11 (F_SM 0).1 (F_SM 0).2.1 (F_SM 0).2.2.1 ∈ zT := zt_of (i := 100) (by decide +kernel) rfl
theorem fl_SM_17 : Cond.fieldLink R_SM 17 (F_SM 1).1 (F_SM 1).2.1 (F_SM 1).2.2.1 ∈ zT := zt_of (i := 101) (by decide +kernel) rfl
theorem fl_SM_23 : Cond.fieldLink R_SM 23 (F_SM 2).1 (F_SM 2).2.1 (F_SM 2).2.2.1 ∈ zT := zt_of (i := 102) (by decide +kernel) rfl
theorem fl_SM_27 : Cond.fieldLink R_SM 27 (F_SM 3).1 (F_SM 3).2.1 (F_SM 3).2.2.1 ∈ zT := zt_of (i := 103) (by decide +kernel) rfl
theorem fl_SM_31 : Cond.fieldLink R_SM 31 (F_SM 4).1 (F_SM 4).2.1 (F_SM 4).2.2.1 ∈ zT := zt_of (i := 104) (by decide +kernel) rfl
theorem fl_SM_170 : Cond.fieldLink R_SM 170 (F_SM 5).1 (F_SM 5).2.1 (F_SM 5).2.2.1 ∈ zT := zt_of (i := 105) (by decide +kernel) rfl
theorem fl_SM_45 : Cond.fieldLink R_SM 45 (F_SM 6).1 (F_SM 6).2.1 (F_SM 6).2.2.1 ∈ zT := zt_of (i := 106) (by decide +kernel) rfl
theorem fl_SM_121 : Cond.fieldLink R_SM 121 (F_SM 7).1 (F_SM 7).2.1 (F_SM 7).2.2.1 ∈ zT := zt_of (i := 107) (by decide +kernel) rfl
theorem fl_MM_7 : Cond.fieldLink R_MM 7 (F_MM 0).1 (F_MM 0).2.1 (F_MM 0).2.2.1 ∈ zT := zt_of (i := 341) (by decide +kernel) rfl
theorem fl_MM_13 : Cond.fieldLink R_MM 13 (F_MM 1).1 (F_MM 1).2.1 (F_MM 1).2.2.1 ∈ zT := zt_of (i := 342) (by decide +kernel) rfl
theorem fl_MM_17 : Cond.fieldLink R_MM 17 (F_MM 2).1 (F_MM 2).2.1 (F_MM 2).2.2.1 ∈ zT := zt_of (i := 343) (by decide +kernel) rfl
theorem fl_MM_20 : Cond.fieldLink R_MM 20 (F_MM 3).1 (F_MM 3).2.1 (F_MM 3).2.2.1 ∈ zT := zt_of (i := 344) (by decide +kernel) rfl
theorem fl_MM_23 : Cond.fieldLink R_MM 23 (F_MM 4).1 (F_MM 4).2.1 (F_MM 4).2.2.1 ∈ zT := zt_of (i := 345) (by decide +kernel) rfl
theorem fl_MM_26 : Cond.fieldLink R_MM 26 (F_MM 5).1 (F_MM 5).2.1 (F_MM 5).2.2.1 ∈ zT := zt_of (i := 346) (by decide +kernel) rfl
theorem fl_MM_29 : Cond.fieldLink R_MM 29 (F_MM 6).1 (F_MM 6).2.1 (F_MM 6).2.2.1 ∈ zT := zt_of (i := 347) (by decide +kernel) rfl
theorem fl_MM_32 : Cond.fieldLink R_MM 32 (F_MM 7).1 (F_MM 7).2.1 (F_MM 7).2.2.1 ∈ zT := zt_of (i := 348) (by decide +kernel) rfl
theorem fl_MM_35 : Cond.fieldLink R_MM 35 (F_MM 8).1 (F_MM 8).2.1 (F_MM 8).2.2.1 ∈ zT := zt_of (i := 349) (by decide +kernel) rfl
theorem fl_MM_39 : Cond.fieldLink R_MM 39 (F_MM 9).1 (F_MM 9).2.1 (F_MM 9).2.2.1 ∈ zT := zt_of (i := 350) (by decide +kernel) rfl
theorem fl_MM_42 : Cond.fieldLink R_MM 42 (F_MM 10).1 (F_MM 10).2.1 (F_MM 10).2.2.1 ∈ zT := zt_of (i := 351) (by decide +kernel) rfl
theorem fl_MM_45 : Cond.fieldLink R_MM 45 (F_MM 11).1 (F_MM 11).2.1 (F_MM 11).2.2.1 ∈ zT := zt_of (i := 352) (by decide +kernel) rfl
theorem fl_MM_48 : Cond.fieldLink R_MM 48 (F_MM 12).1 (F_MM 12).2.1 (F_MM 12).2.2.1 ∈ zT := zt_of (i := 353) (by decide +kernel) rfl
theorem fl_MM_51 : Cond.fieldLink R_MM 51 (F_MM 13).1 (F_MM 13).2.1 (F_MM 13).2.2.1 ∈ zT := zt_of (i := 354) (by decide +kernel) rfl
theorem fl_MM_54 : Cond.fieldLink R_MM 54 (F_MM 14).1 (F_MM 14).2.1 (F_MM 14).2.2.1 ∈ zT := zt_of (i := 355) (by decide +kernel) rfl
theorem fl_MM_57 : Cond.fieldLink R_MM 57 (F_MM 15).1 (F_MM 15).2.1 (F_MM 15).2.2.1 ∈ zT := zt_of (i := 356) (by decide +kernel) rfl
set_option maxRecDepth 20000 in
theorem k_SM_init : Cond.code y_SM_init b_SM_init 4 none ∈ zT := zt_of (i := 11) rfl rfl
set_option maxRecDepth 20000 in
theorem k_Ar_init : Cond.code y_Ar_init b_Ar_init 1 none ∈ zT := zt_of (i := 24) rfl rfl
set_option maxRecDepth 20000 in
theorem k_Ce_init : Cond.code y_Ce_init b_Ce_init 1 none ∈ zT := zt_of (i := 50) rfl rfl
set_option maxRecDepth 20000 in
theorem k_Ro_init : Cond.code y_Ro_init b_Ro_init 1 none ∈ zT := zt_of (i := 71) rfl rfl
set_option maxRecDepth 20000 in
theorem k_SM_clampBaseSize : Cond.code y_SM_clampBaseSize b_SM_clampBaseSize 1 (some .int) ∈ zT := zt_of (i := 93) rfl rfl
set_option maxRecDepth 20000 in
theorem k_SM_scope : Cond.code y_SM_scope b_SM_scope 3 (some .int) ∈ zT := zt_of (i := 128) rfl rfl
set_option maxRecDepth 20000 in
theorem k_SM_begin : Cond.code y_SM_begin b_SM_begin 3 (some .int) ∈ zT := zt_of (i := 132) rfl rfl
set_option maxRecDepth 20000 in
theorem k_SM_isThread : Cond.code y_SM_isThread b_SM_isThread 1 (some .boolean) ∈ zT := zt_of (i := 135) rfl rfl
set_option maxRecDepth 20000 in
theorem k_SM_isBegun : Cond.code y_SM_isBegun b_SM_isBegun 2 (some .boolean) ∈ zT := zt_of (i := 139) rfl rfl
set_option maxRecDepth 20000 in
theorem k_Ro_push : Cond.code y_Ro_push b_Ro_push 4 none ∈ zT := zt_of (i := 143) rfl rfl
set_option maxRecDepth 20000 in
theorem k_SM_enter : Cond.code y_SM_enter b_SM_enter 6 (some .int) ∈ zT := zt_of (i := 147) rfl rfl
set_option maxRecDepth 20000 in
theorem k_SM_isScope : Cond.code y_SM_isScope b_SM_isScope 2 (some .boolean) ∈ zT := zt_of (i := 151) rfl rfl
set_option maxRecDepth 20000 in
theorem k_SM_isArea : Cond.code y_SM_isArea b_SM_isArea 2 (some .boolean) ∈ zT := zt_of (i := 155) rfl rfl
set_option maxRecDepth 20000 in
theorem k_Ro_nearestScope : Cond.code y_Ro_nearestScope b_Ro_nearestScope 3 (some .int) ∈ zT := zt_of (i := 159) rfl rfl
set_option maxRecDepth 20000 in
theorem k_Ro_top : Cond.code y_Ro_top b_Ro_top 1 (some .int) ∈ zT := zt_of (i := 163) rfl rfl
set_option maxRecDepth 20000 in
theorem k_Ro_hasInView : Cond.code y_Ro_hasInView b_Ro_hasInView 2 (some .boolean) ∈ zT := zt_of (i := 167) rfl rfl
set_option maxRecDepth 20000 in
theorem k_Ro_firstWith : Cond.code y_Ro_firstWith b_Ro_firstWith 4 (some .int) ∈ zT := zt_of (i := 171) rfl rfl
set_option maxRecDepth 20000 in
theorem k_Ro_isFull : Cond.code y_Ro_isFull b_Ro_isFull 1 (some .boolean) ∈ zT := zt_of (i := 175) rfl rfl
set_option maxRecDepth 20000 in
theorem k_SM_turn : Cond.code y_SM_turn b_SM_turn 4 (some .int) ∈ zT := zt_of (i := 180) rfl rfl
set_option maxRecDepth 20000 in
theorem k_Ro_underOfFirstWith : Cond.code y_Ro_underOfFirstWith b_Ro_underOfFirstWith 3 (some .int) ∈ zT := zt_of (i := 184) rfl rfl
set_option maxRecDepth 20000 in
theorem k_SM_leave : Cond.code y_SM_leave b_SM_leave 5 (some .int) ∈ zT := zt_of (i := 188) rfl rfl
set_option maxRecDepth 20000 in
theorem k_Ro_currentArea : Cond.code y_Ro_currentArea b_Ro_currentArea 1 (some .int) ∈ zT := zt_of (i := 192) rfl rfl
set_option maxRecDepth 20000 in
theorem k_Ro_topWasEntered : Cond.code y_Ro_topWasEntered b_Ro_topWasEntered 1 (some .boolean) ∈ zT := zt_of (i := 196) rfl rfl
set_option maxRecDepth 20000 in
theorem k_Ro_pop : Cond.code y_Ro_pop b_Ro_pop 1 none ∈ zT := zt_of (i := 200) rfl rfl
set_option maxRecDepth 20000 in
theorem k_SM_dropEntry : Cond.code y_SM_dropEntry b_SM_dropEntry 2 none ∈ zT := zt_of (i := 204) rfl rfl
set_option maxRecDepth 20000 in
theorem k_SM_emptyScope : Cond.code y_SM_emptyScope b_SM_emptyScope 3 none ∈ zT := zt_of (i := 208) rfl rfl
set_option maxRecDepth 20000 in
theorem k_SM_drop : Cond.code y_SM_drop b_SM_drop 3 none ∈ zT := zt_of (i := 212) rfl rfl
set_option maxRecDepth 20000 in
theorem k_SM_make : Cond.code y_SM_make b_SM_make 5 (some .int) ∈ zT := zt_of (i := 216) rfl rfl
set_option maxRecDepth 20000 in
theorem k_SM_leastFreeNumber : Cond.code y_SM_leastFreeNumber b_SM_leastFreeNumber 2 (some .int) ∈ zT := zt_of (i := 220) rfl rfl
set_option maxRecDepth 20000 in
theorem k_Ar_free : Cond.code y_Ar_free b_Ar_free 1 (some .int) ∈ zT := zt_of (i := 224) rfl rfl
set_option maxRecDepth 20000 in
theorem k_Ce_fill : Cond.code y_Ce_fill b_Ce_fill 4 none ∈ zT := zt_of (i := 228) rfl rfl
set_option maxRecDepth 20000 in
theorem k_SM_put : Cond.code y_SM_put b_SM_put 5 (some .int) ∈ zT := zt_of (i := 232) rfl rfl
set_option maxRecDepth 20000 in
theorem k_SM_hasField : Cond.code y_SM_hasField b_SM_hasField 3 (some .boolean) ∈ zT := zt_of (i := 236) rfl rfl
set_option maxRecDepth 20000 in
theorem k_SM_isObject : Cond.code y_SM_isObject b_SM_isObject 2 (some .boolean) ∈ zT := zt_of (i := 240) rfl rfl
set_option maxRecDepth 20000 in
theorem k_SM_isObjectOrNull : Cond.code y_SM_isObjectOrNull b_SM_isObjectOrNull 2 (some .boolean) ∈ zT := zt_of (i := 244) rfl rfl
set_option maxRecDepth 20000 in
theorem k_SM_sees : Cond.code y_SM_sees b_SM_sees 4 (some .boolean) ∈ zT := zt_of (i := 248) rfl rfl
set_option maxRecDepth 20000 in
theorem k_SM_seesOrNull : Cond.code y_SM_seesOrNull b_SM_seesOrNull 3 (some .boolean) ∈ zT := zt_of (i := 252) rfl rfl
set_option maxRecDepth 20000 in
theorem k_SM_mayPointTo : Cond.code y_SM_mayPointTo b_SM_mayPointTo 4 (some .boolean) ∈ zT := zt_of (i := 256) rfl rfl
set_option maxRecDepth 20000 in
theorem k_SM_liesIn : Cond.code y_SM_liesIn b_SM_liesIn 5 (some .boolean) ∈ zT := zt_of (i := 260) rfl rfl
set_option maxRecDepth 20000 in
theorem k_SM_get : Cond.code y_SM_get b_SM_get 5 (some .int) ∈ zT := zt_of (i := 264) rfl rfl
set_option maxRecDepth 20000 in
theorem k_SM_hang : Cond.code y_SM_hang b_SM_hang 4 (some .int) ∈ zT := zt_of (i := 268) rfl rfl
set_option maxRecDepth 20000 in
theorem k_SM_portal : Cond.code y_SM_portal b_SM_portal 3 (some .int) ∈ zT := zt_of (i := 272) rfl rfl
set_option maxRecDepth 20000 in
theorem k_SM_objectOrNull : Cond.code y_SM_objectOrNull b_SM_objectOrNull 1 (some .int) ∈ zT := zt_of (i := 275) rfl rfl
set_option maxRecDepth 20000 in
theorem k_SM_assign : Cond.code y_SM_assign b_SM_assign 4 (some .int) ∈ zT := zt_of (i := 279) rfl rfl
set_option maxRecDepth 20000 in
theorem k_SM_collect : Cond.code y_SM_collect b_SM_collect 3 (some .int) ∈ zT := zt_of (i := 283) rfl rfl
set_option maxRecDepth 20000 in
theorem k_SM_findKept : Cond.code y_SM_findKept b_SM_findKept 2 none ∈ zT := zt_of (i := 287) rfl rfl
set_option maxRecDepth 20000 in
theorem k_SM_keep : Cond.code y_SM_keep b_SM_keep 2 none ∈ zT := zt_of (i := 291) rfl rfl
set_option maxRecDepth 20000 in
theorem k_SM_keepFieldsOf : Cond.code y_SM_keepFieldsOf b_SM_keepFieldsOf 4 none ∈ zT := zt_of (i := 295) rfl rfl
set_option maxRecDepth 20000 in
theorem k_SM_areaOf : Cond.code y_SM_areaOf b_SM_areaOf 2 (some .int) ∈ zT := zt_of (i := 299) rfl rfl
set_option maxRecDepth 20000 in
theorem k_SM_room : Cond.code y_SM_room b_SM_room 2 (some .int) ∈ zT := zt_of (i := 303) rfl rfl
set_option maxRecDepth 20000 in
theorem k_SM_parent : Cond.code y_SM_parent b_SM_parent 2 (some .int) ∈ zT := zt_of (i := 307) rfl rfl
set_option maxRecDepth 20000 in
theorem k_SM_entries : Cond.code y_SM_entries b_SM_entries 2 (some .int) ∈ zT := zt_of (i := 311) rfl rfl
set_option maxRecDepth 20000 in
theorem k_SM_view : Cond.code y_SM_view b_SM_view 4 (some .int) ∈ zT := zt_of (i := 315) rfl rfl
set_option maxRecDepth 20000 in
theorem k_Ro_areaInView : Cond.code y_Ro_areaInView b_Ro_areaInView 4 (some .int) ∈ zT := zt_of (i := 319) rfl rfl
set_option maxRecDepth 20000 in
theorem k_SM_count : Cond.code y_SM_count b_SM_count 2 (some .int) ∈ zT := zt_of (i := 323) rfl rfl
set_option maxRecDepth 20000 in
theorem k_SM_begunThreads : Cond.code y_SM_begunThreads b_SM_begunThreads 3 (some .int) ∈ zT := zt_of (i := 327) rfl rfl
set_option maxRecDepth 20000 in
theorem k_law_cell : Cond.code y_law_cell b_law_cell 2 (some .int) ∈ zT := zt_of (i := 330) rfl rfl
set_option maxRecDepth 20000 in
theorem k_MM_init : Cond.code y_MM_init b_MM_init 4 none ∈ zT := zt_of (i := 335) rfl rfl
set_option maxRecDepth 20000 in
theorem k_MM_clamp : Cond.code y_MM_clamp b_MM_clamp 2 (some .int) ∈ zT := zt_of (i := 340) rfl rfl
set_option maxRecDepth 20000 in
theorem k_MM_scope : Cond.code y_MM_scope b_MM_scope 2 (some .int) ∈ zT := zt_of (i := 393) rfl rfl
set_option maxRecDepth 20000 in
theorem k_MM_begin : Cond.code y_MM_begin b_MM_begin 3 (some .int) ∈ zT := zt_of (i := 397) rfl rfl
set_option maxRecDepth 20000 in
theorem k_MM_step : Cond.code y_MM_step b_MM_step 6 (some .int) ∈ zT := zt_of (i := 401) rfl rfl
set_option maxRecDepth 20000 in
theorem k_MM_enter : Cond.code y_MM_enter b_MM_enter 3 (some .int) ∈ zT := zt_of (i := 405) rfl rfl
set_option maxRecDepth 20000 in
theorem k_MM_idle : Cond.code y_MM_idle b_MM_idle 2 (some .boolean) ∈ zT := zt_of (i := 409) rfl rfl
set_option maxRecDepth 20000 in
theorem k_MM_noScope : Cond.code y_MM_noScope b_MM_noScope 2 (some .boolean) ∈ zT := zt_of (i := 413) rfl rfl
set_option maxRecDepth 20000 in
theorem k_MM_stepWith : Cond.code y_MM_stepWith b_MM_stepWith 5 (some .int) ∈ zT := zt_of (i := 417) rfl rfl
set_option maxRecDepth 20000 in
theorem k_MM_viewed : Cond.code y_MM_viewed b_MM_viewed 5 (some .int) ∈ zT := zt_of (i := 421) rfl rfl
set_option maxRecDepth 20000 in
theorem k_MM_nearest : Cond.code y_MM_nearest b_MM_nearest 4 (some .int) ∈ zT := zt_of (i := 425) rfl rfl
set_option maxRecDepth 20000 in
theorem k_MM_turn : Cond.code y_MM_turn b_MM_turn 4 (some .int) ∈ zT := zt_of (i := 429) rfl rfl
set_option maxRecDepth 20000 in
theorem k_MM_noArea : Cond.code y_MM_noArea b_MM_noArea 2 (some .boolean) ∈ zT := zt_of (i := 433) rfl rfl
set_option maxRecDepth 20000 in
theorem k_MM_leave : Cond.code y_MM_leave b_MM_leave 3 (some .int) ∈ zT := zt_of (i := 437) rfl rfl
set_option maxRecDepth 20000 in
theorem k_MM_empty : Cond.code y_MM_empty b_MM_empty 3 none ∈ zT := zt_of (i := 441) rfl rfl
set_option maxRecDepth 20000 in
theorem k_MM_make : Cond.code y_MM_make b_MM_make 6 (some .int) ∈ zT := zt_of (i := 445) rfl rfl
set_option maxRecDepth 20000 in
theorem k_MM_current : Cond.code y_MM_current b_MM_current 2 (some .int) ∈ zT := zt_of (i := 449) rfl rfl
set_option maxRecDepth 20000 in
theorem k_MM_used : Cond.code y_MM_used b_MM_used 4 (some .int) ∈ zT := zt_of (i := 453) rfl rfl
set_option maxRecDepth 20000 in
theorem k_MM_put : Cond.code y_MM_put b_MM_put 5 (some .int) ∈ zT := zt_of (i := 457) rfl rfl
set_option maxRecDepth 20000 in
theorem k_MM_noObject : Cond.code y_MM_noObject b_MM_noObject 2 (some .boolean) ∈ zT := zt_of (i := 461) rfl rfl
set_option maxRecDepth 20000 in
theorem k_MM_sees : Cond.code y_MM_sees b_MM_sees 3 (some .boolean) ∈ zT := zt_of (i := 465) rfl rfl
set_option maxRecDepth 20000 in
theorem k_MM_mayPoint : Cond.code y_MM_mayPoint b_MM_mayPoint 3 (some .boolean) ∈ zT := zt_of (i := 469) rfl rfl
set_option maxRecDepth 20000 in
theorem k_MM_liesIn : Cond.code y_MM_liesIn b_MM_liesIn 5 (some .boolean) ∈ zT := zt_of (i := 473) rfl rfl
set_option maxRecDepth 20000 in
theorem k_MM_get : Cond.code y_MM_get b_MM_get 5 (some .int) ∈ zT := zt_of (i := 477) rfl rfl
set_option maxRecDepth 20000 in
theorem k_MM_hang : Cond.code y_MM_hang b_MM_hang 4 (some .int) ∈ zT := zt_of (i := 481) rfl rfl
set_option maxRecDepth 20000 in
theorem k_MM_portal : Cond.code y_MM_portal b_MM_portal 3 (some .int) ∈ zT := zt_of (i := 485) rfl rfl
set_option maxRecDepth 20000 in
theorem k_MM_assign : Cond.code y_MM_assign b_MM_assign 4 (some .int) ∈ zT := zt_of (i := 489) rfl rfl
set_option maxRecDepth 20000 in
theorem k_MM_collect : Cond.code y_MM_collect b_MM_collect 3 (some .int) ∈ zT := zt_of (i := 493) rfl rfl
set_option maxRecDepth 20000 in
theorem k_MM_keep : Cond.code y_MM_keep b_MM_keep 7 (some .int) ∈ zT := zt_of (i := 497) rfl rfl
set_option maxRecDepth 20000 in
theorem k_MM_keeps : Cond.code y_MM_keeps b_MM_keeps 2 (some .boolean) ∈ zT := zt_of (i := 501) rfl rfl
set_option maxRecDepth 20000 in
theorem k_MM_areaOf : Cond.code y_MM_areaOf b_MM_areaOf 2 (some .int) ∈ zT := zt_of (i := 505) rfl rfl
set_option maxRecDepth 20000 in
theorem k_MM_room : Cond.code y_MM_room b_MM_room 2 (some .int) ∈ zT := zt_of (i := 509) rfl rfl
set_option maxRecDepth 20000 in
theorem k_MM_parent : Cond.code y_MM_parent b_MM_parent 2 (some .int) ∈ zT := zt_of (i := 513) rfl rfl
set_option maxRecDepth 20000 in
theorem k_MM_entries : Cond.code y_MM_entries b_MM_entries 2 (some .int) ∈ zT := zt_of (i := 517) rfl rfl
set_option maxRecDepth 20000 in
theorem k_MM_view : Cond.code y_MM_view b_MM_view 4 (some .int) ∈ zT := zt_of (i := 521) rfl rfl
set_option maxRecDepth 20000 in
theorem k_MM_count : Cond.code y_MM_count b_MM_count 4 (some .int) ∈ zT := zt_of (i := 525) rfl rfl
theorem s_law_15 : zSiteI R_law 15 y_SM_init 2 := ⟨⟨zt_of (i := 9) (by decide +kernel) rfl, zt_of (i := 10) (by decide +kernel) rfl, rfl⟩, ⟨zt_of (i := 1) (by decide +kernel) rfl, by decide, by decide, by decide +kernel⟩⟩
theorem s_SM_34 : zSiteIN R_SM 34 y_Ar_init "ScopedMemory" 0 := ⟨⟨zn_of (i := 22) (by decide +kernel) rfl, zt_of (i := 23) (by decide +kernel) rfl, rfl⟩, ⟨zt_of (i := 2) (by decide +kernel) rfl, by decide, by decide, by decide +kernel⟩⟩
theorem s_SM_35 : zSiteIN R_SM 35 y_Ce_init "ScopedMemory" 0 := ⟨⟨zn_of (i := 48) (by decide +kernel) rfl, zt_of (i := 49) (by decide +kernel) rfl, rfl⟩, ⟨zt_of (i := 3) (by decide +kernel) rfl, by decide, by decide, by decide +kernel⟩⟩
theorem s_SM_36 : zSiteIN R_SM 36 y_Ro_init "ScopedMemory" 0 := ⟨⟨zn_of (i := 69) (by decide +kernel) rfl, zt_of (i := 70) (by decide +kernel) rfl, rfl⟩, ⟨zt_of (i := 4) (by decide +kernel) rfl, by decide, by decide, by decide +kernel⟩⟩
theorem s_SM_37 : zSiteS R_SM 37 y_SM_clampBaseSize 1 := ⟨⟨zt_of (i := 91) (by decide +kernel) rfl, zt_of (i := 92) (by decide +kernel) rfl⟩, ⟨zt_of (i := 1) (by decide +kernel) rfl, by decide, by decide, by decide +kernel⟩⟩
theorem s_law_21 : zSiteV R_law 21 y_SM_scope 1 := ⟨⟨zt_of (i := 125) (by decide +kernel) rfl, zt_of (i := 126) (by decide +kernel) rfl, zt_of (i := 127) (by decide +kernel) rfl⟩, ⟨zt_of (i := 1) (by decide +kernel) rfl, by decide, by decide, by decide +kernel⟩⟩
theorem s_law_26 : zSiteV R_law 26 y_SM_begin 2 := ⟨⟨zt_of (i := 129) (by decide +kernel) rfl, zt_of (i := 130) (by decide +kernel) rfl, zt_of (i := 131) (by decide +kernel) rfl⟩, ⟨zt_of (i := 1) (by decide +kernel) rfl, by decide, by decide, by decide +kernel⟩⟩
theorem s_SM_48 : zSiteS R_SM 48 y_SM_isThread 1 := ⟨⟨zt_of (i := 133) (by decide +kernel) rfl, zt_of (i := 134) (by decide +kernel) rfl⟩, ⟨zt_of (i := 1) (by decide +kernel) rfl, by decide, by decide, by decide +kernel⟩⟩
theorem s_SM_52 : zSiteV R_SM 52 y_SM_isBegun 1 := ⟨⟨zt_of (i := 136) (by decide +kernel) rfl, zt_of (i := 138) (by decide +kernel) rfl, zs_of (i := 0) (by decide +kernel) rfl⟩, ⟨zt_of (i := 1) (by decide +kernel) rfl, by decide, by decide, by decide +kernel⟩⟩
theorem s_SM_59 : zSiteVN R_SM 59 y_Ro_push "ScopedMemory" 3 := ⟨⟨zn_of (i := 140) (by decide +kernel) rfl, zt_of (i := 142) (by decide +kernel) rfl, zs_of (i := 1) (by decide +kernel) rfl⟩, ⟨zt_of (i := 4) (by decide +kernel) rfl, by decide, by decide, by decide +kernel⟩⟩
theorem s_law_31 : zSiteV R_law 31 y_SM_enter 2 := ⟨⟨zt_of (i := 144) (by decide +kernel) rfl, zt_of (i := 145) (by decide +kernel) rfl, zt_of (i := 146) (by decide +kernel) rfl⟩, ⟨zt_of (i := 1) (by decide +kernel) rfl, by decide, by decide, by decide +kernel⟩⟩
theorem s_SM_63 : zSiteV R_SM 63 y_SM_isScope 1 := ⟨⟨zt_of (i := 148) (by decide +kernel) rfl, zt_of (i := 150) (by decide +kernel) rfl, zs_of (i := 2) (by decide +kernel) rfl⟩, ⟨zt_of (i := 1) (by decide +kernel) rfl, by decide, by decide, by decide +kernel⟩⟩
theorem s_SM_86 : zSiteV R_SM 86 y_SM_isArea 1 := ⟨⟨zt_of (i := 152) (by decide +kernel) rfl, zt_of (i := 154) (by decide +kernel) rfl, zs_of (i := 3) (by decide +kernel) rfl⟩, ⟨zt_of (i := 1) (by decide +kernel) rfl, by decide, by decide, by decide +kernel⟩⟩
theorem s_SM_66 : zSiteVN R_SM 66 y_Ro_nearestScope "ScopedMemory" 0 := ⟨⟨zn_of (i := 156) (by decide +kernel) rfl, zt_of (i := 158) (by decide +kernel) rfl, zs_of (i := 4) (by decide +kernel) rfl⟩, ⟨zt_of (i := 4) (by decide +kernel) rfl, by decide, by decide, by decide +kernel⟩⟩
theorem s_Ro_26 : zSiteV R_Ro 26 y_Ro_top 0 := ⟨⟨zt_of (i := 160) (by decide +kernel) rfl, zt_of (i := 162) (by decide +kernel) rfl, zs_of (i := 5) (by decide +kernel) rfl⟩, ⟨zt_of (i := 4) (by decide +kernel) rfl, by decide, by decide, by decide +kernel⟩⟩
theorem s_SM_70 : zSiteVN R_SM 70 y_Ro_hasInView "ScopedMemory" 1 := ⟨⟨zn_of (i := 164) (by decide +kernel) rfl, zt_of (i := 166) (by decide +kernel) rfl, zs_of (i := 6) (by decide +kernel) rfl⟩, ⟨zt_of (i := 4) (by decide +kernel) rfl, by decide, by decide, by decide +kernel⟩⟩
theorem s_Ro_30 : zSiteV R_Ro 30 y_Ro_firstWith 1 := ⟨⟨zt_of (i := 168) (by decide +kernel) rfl, zt_of (i := 170) (by decide +kernel) rfl, zs_of (i := 7) (by decide +kernel) rfl⟩, ⟨zt_of (i := 4) (by decide +kernel) rfl, by decide, by decide, by decide +kernel⟩⟩
theorem s_SM_79 : zSiteVN R_SM 79 y_Ro_isFull "ScopedMemory" 0 := ⟨⟨zn_of (i := 172) (by decide +kernel) rfl, zt_of (i := 174) (by decide +kernel) rfl, zs_of (i := 8) (by decide +kernel) rfl⟩, ⟨zt_of (i := 4) (by decide +kernel) rfl, by decide, by decide, by decide +kernel⟩⟩
theorem s_SM_83 : zSiteVN R_SM 83 y_Ro_top "ScopedMemory" 0 := ⟨⟨zn_of (i := 176) (by decide +kernel) rfl, zt_of (i := 162) (by decide +kernel) rfl, zs_of (i := 5) (by decide +kernel) rfl⟩, ⟨zt_of (i := 4) (by decide +kernel) rfl, by decide, by decide, by decide +kernel⟩⟩
theorem s_law_36 : zSiteV R_law 36 y_SM_turn 2 := ⟨⟨zt_of (i := 177) (by decide +kernel) rfl, zt_of (i := 178) (by decide +kernel) rfl, zt_of (i := 179) (by decide +kernel) rfl⟩, ⟨zt_of (i := 1) (by decide +kernel) rfl, by decide, by decide, by decide +kernel⟩⟩
theorem s_SM_89 : zSiteVN R_SM 89 y_Ro_underOfFirstWith "ScopedMemory" 1 := ⟨⟨zn_of (i := 181) (by decide +kernel) rfl, zt_of (i := 183) (by decide +kernel) rfl, zs_of (i := 9) (by decide +kernel) rfl⟩, ⟨zt_of (i := 4) (by decide +kernel) rfl, by decide, by decide, by decide +kernel⟩⟩
theorem s_law_40 : zSiteV R_law 40 y_SM_leave 1 := ⟨⟨zt_of (i := 185) (by decide +kernel) rfl, zt_of (i := 186) (by decide +kernel) rfl, zt_of (i := 187) (by decide +kernel) rfl⟩, ⟨zt_of (i := 1) (by decide +kernel) rfl, by decide, by decide, by decide +kernel⟩⟩
theorem s_SM_95 : zSiteVN R_SM 95 y_Ro_currentArea "ScopedMemory" 0 := ⟨⟨zn_of (i := 189) (by decide +kernel) rfl, zt_of (i := 191) (by decide +kernel) rfl, zs_of (i := 10) (by decide +kernel) rfl⟩, ⟨zt_of (i := 4) (by decide +kernel) rfl, by decide, by decide, by decide +kernel⟩⟩
theorem s_SM_98 : zSiteVN R_SM 98 y_Ro_topWasEntered "ScopedMemory" 0 := ⟨⟨zn_of (i := 193) (by decide +kernel) rfl, zt_of (i := 195) (by decide +kernel) rfl, zs_of (i := 11) (by decide +kernel) rfl⟩, ⟨zt_of (i := 4) (by decide +kernel) rfl, by decide, by decide, by decide +kernel⟩⟩
theorem s_SM_101 : zSiteVN R_SM 101 y_Ro_pop "ScopedMemory" 0 := ⟨⟨zn_of (i := 197) (by decide +kernel) rfl, zt_of (i := 199) (by decide +kernel) rfl, zs_of (i := 12) (by decide +kernel) rfl⟩, ⟨zt_of (i := 4) (by decide +kernel) rfl, by decide, by decide, by decide +kernel⟩⟩
theorem s_SM_104 : zSiteV R_SM 104 y_SM_dropEntry 1 := ⟨⟨zt_of (i := 201) (by decide +kernel) rfl, zt_of (i := 203) (by decide +kernel) rfl, zs_of (i := 13) (by decide +kernel) rfl⟩, ⟨zt_of (i := 1) (by decide +kernel) rfl, by decide, by decide, by decide +kernel⟩⟩
theorem s_SM_188 : zSiteV R_SM 188 y_SM_emptyScope 1 := ⟨⟨zt_of (i := 205) (by decide +kernel) rfl, zt_of (i := 207) (by decide +kernel) rfl, zs_of (i := 14) (by decide +kernel) rfl⟩, ⟨zt_of (i := 1) (by decide +kernel) rfl, by decide, by decide, by decide +kernel⟩⟩
theorem s_SM_158 : zSiteV R_SM 158 y_SM_drop 1 := ⟨⟨zt_of (i := 209) (by decide +kernel) rfl, zt_of (i := 211) (by decide +kernel) rfl, zs_of (i := 15) (by decide +kernel) rfl⟩, ⟨zt_of (i := 1) (by decide +kernel) rfl, by decide, by decide, by decide +kernel⟩⟩
theorem s_law_44 : zSiteV R_law 44 y_SM_make 2 := ⟨⟨zt_of (i := 213) (by decide +kernel) rfl, zt_of (i := 214) (by decide +kernel) rfl, zt_of (i := 215) (by decide +kernel) rfl⟩, ⟨zt_of (i := 1) (by decide +kernel) rfl, by decide, by decide, by decide +kernel⟩⟩
theorem s_SM_108 : zSiteV R_SM 108 y_SM_leastFreeNumber 0 := ⟨⟨zt_of (i := 217) (by decide +kernel) rfl, zt_of (i := 219) (by decide +kernel) rfl, zs_of (i := 16) (by decide +kernel) rfl⟩, ⟨zt_of (i := 1) (by decide +kernel) rfl, by decide, by decide, by decide +kernel⟩⟩
theorem s_SM_111 : zSiteVN R_SM 111 y_Ar_free "ScopedMemory" 0 := ⟨⟨zn_of (i := 221) (by decide +kernel) rfl, zt_of (i := 223) (by decide +kernel) rfl, zs_of (i := 17) (by decide +kernel) rfl⟩, ⟨zt_of (i := 2) (by decide +kernel) rfl, by decide, by decide, by decide +kernel⟩⟩
theorem s_SM_114 : zSiteVN R_SM 114 y_Ce_fill "ScopedMemory" 2 := ⟨⟨zn_of (i := 225) (by decide +kernel) rfl, zt_of (i := 227) (by decide +kernel) rfl, zs_of (i := 18) (by decide +kernel) rfl⟩, ⟨zt_of (i := 3) (by decide +kernel) rfl, by decide, by decide, by decide +kernel⟩⟩
theorem s_law_48 : zSiteV R_law 48 y_SM_put 4 := ⟨⟨zt_of (i := 229) (by decide +kernel) rfl, zt_of (i := 230) (by decide +kernel) rfl, zt_of (i := 231) (by decide +kernel) rfl⟩, ⟨zt_of (i := 1) (by decide +kernel) rfl, by decide, by decide, by decide +kernel⟩⟩
theorem s_SM_124 : zSiteV R_SM 124 y_SM_hasField 2 := ⟨⟨zt_of (i := 233) (by decide +kernel) rfl, zt_of (i := 235) (by decide +kernel) rfl, zs_of (i := 19) (by decide +kernel) rfl⟩, ⟨zt_of (i := 1) (by decide +kernel) rfl, by decide, by decide, by decide +kernel⟩⟩
theorem s_SM_161 : zSiteV R_SM 161 y_SM_isObject 1 := ⟨⟨zt_of (i := 237) (by decide +kernel) rfl, zt_of (i := 239) (by decide +kernel) rfl, zs_of (i := 20) (by decide +kernel) rfl⟩, ⟨zt_of (i := 1) (by decide +kernel) rfl, by decide, by decide, by decide +kernel⟩⟩
theorem s_SM_128 : zSiteV R_SM 128 y_SM_isObjectOrNull 1 := ⟨⟨zt_of (i := 241) (by decide +kernel) rfl, zt_of (i := 243) (by decide +kernel) rfl, zs_of (i := 21) (by decide +kernel) rfl⟩, ⟨zt_of (i := 1) (by decide +kernel) rfl, by decide, by decide, by decide +kernel⟩⟩
theorem s_SM_131 : zSiteV R_SM 131 y_SM_sees 2 := ⟨⟨zt_of (i := 245) (by decide +kernel) rfl, zt_of (i := 247) (by decide +kernel) rfl, zs_of (i := 22) (by decide +kernel) rfl⟩, ⟨zt_of (i := 1) (by decide +kernel) rfl, by decide, by decide, by decide +kernel⟩⟩
theorem s_SM_134 : zSiteV R_SM 134 y_SM_seesOrNull 2 := ⟨⟨zt_of (i := 249) (by decide +kernel) rfl, zt_of (i := 251) (by decide +kernel) rfl, zs_of (i := 23) (by decide +kernel) rfl⟩, ⟨zt_of (i := 1) (by decide +kernel) rfl, by decide, by decide, by decide +kernel⟩⟩
theorem s_SM_140 : zSiteV R_SM 140 y_SM_mayPointTo 2 := ⟨⟨zt_of (i := 253) (by decide +kernel) rfl, zt_of (i := 255) (by decide +kernel) rfl, zs_of (i := 24) (by decide +kernel) rfl⟩, ⟨zt_of (i := 1) (by decide +kernel) rfl, by decide, by decide, by decide +kernel⟩⟩
theorem s_SM_185 : zSiteV R_SM 185 y_SM_liesIn 2 := ⟨⟨zt_of (i := 257) (by decide +kernel) rfl, zt_of (i := 259) (by decide +kernel) rfl, zs_of (i := 25) (by decide +kernel) rfl⟩, ⟨zt_of (i := 1) (by decide +kernel) rfl, by decide, by decide, by decide +kernel⟩⟩
theorem s_law_53 : zSiteV R_law 53 y_SM_get 3 := ⟨⟨zt_of (i := 261) (by decide +kernel) rfl, zt_of (i := 262) (by decide +kernel) rfl, zt_of (i := 263) (by decide +kernel) rfl⟩, ⟨zt_of (i := 1) (by decide +kernel) rfl, by decide, by decide, by decide +kernel⟩⟩
theorem s_law_58 : zSiteV R_law 58 y_SM_hang 3 := ⟨⟨zt_of (i := 265) (by decide +kernel) rfl, zt_of (i := 266) (by decide +kernel) rfl, zt_of (i := 267) (by decide +kernel) rfl⟩, ⟨zt_of (i := 1) (by decide +kernel) rfl, by decide, by decide, by decide +kernel⟩⟩
theorem s_law_62 : zSiteV R_law 62 y_SM_portal 2 := ⟨⟨zt_of (i := 269) (by decide +kernel) rfl, zt_of (i := 270) (by decide +kernel) rfl, zt_of (i := 271) (by decide +kernel) rfl⟩, ⟨zt_of (i := 1) (by decide +kernel) rfl, by decide, by decide, by decide +kernel⟩⟩
theorem s_SM_149 : zSiteS R_SM 149 y_SM_objectOrNull 1 := ⟨⟨zt_of (i := 273) (by decide +kernel) rfl, zt_of (i := 274) (by decide +kernel) rfl⟩, ⟨zt_of (i := 1) (by decide +kernel) rfl, by decide, by decide, by decide +kernel⟩⟩
theorem s_law_66 : zSiteV R_law 66 y_SM_assign 3 := ⟨⟨zt_of (i := 276) (by decide +kernel) rfl, zt_of (i := 277) (by decide +kernel) rfl, zt_of (i := 278) (by decide +kernel) rfl⟩, ⟨zt_of (i := 1) (by decide +kernel) rfl, by decide, by decide, by decide +kernel⟩⟩
theorem s_law_70 : zSiteV R_law 70 y_SM_collect 0 := ⟨⟨zt_of (i := 280) (by decide +kernel) rfl, zt_of (i := 281) (by decide +kernel) rfl, zt_of (i := 282) (by decide +kernel) rfl⟩, ⟨zt_of (i := 1) (by decide +kernel) rfl, by decide, by decide, by decide +kernel⟩⟩
theorem s_SM_152 : zSiteV R_SM 152 y_SM_findKept 0 := ⟨⟨zt_of (i := 284) (by decide +kernel) rfl, zt_of (i := 286) (by decide +kernel) rfl, zs_of (i := 26) (by decide +kernel) rfl⟩, ⟨zt_of (i := 1) (by decide +kernel) rfl, by decide, by decide, by decide +kernel⟩⟩
theorem s_SM_191 : zSiteV R_SM 191 y_SM_keep 1 := ⟨⟨zt_of (i := 288) (by decide +kernel) rfl, zt_of (i := 290) (by decide +kernel) rfl, zs_of (i := 27) (by decide +kernel) rfl⟩, ⟨zt_of (i := 1) (by decide +kernel) rfl, by decide, by decide, by decide +kernel⟩⟩
theorem s_SM_194 : zSiteV R_SM 194 y_SM_keepFieldsOf 1 := ⟨⟨zt_of (i := 292) (by decide +kernel) rfl, zt_of (i := 294) (by decide +kernel) rfl, zs_of (i := 28) (by decide +kernel) rfl⟩, ⟨zt_of (i := 1) (by decide +kernel) rfl, by decide, by decide, by decide +kernel⟩⟩
theorem s_law_75 : zSiteV R_law 75 y_SM_areaOf 1 := ⟨⟨zt_of (i := 296) (by decide +kernel) rfl, zt_of (i := 297) (by decide +kernel) rfl, zt_of (i := 298) (by decide +kernel) rfl⟩, ⟨zt_of (i := 1) (by decide +kernel) rfl, by decide, by decide, by decide +kernel⟩⟩
theorem s_law_79 : zSiteV R_law 79 y_SM_room 1 := ⟨⟨zt_of (i := 300) (by decide +kernel) rfl, zt_of (i := 301) (by decide +kernel) rfl, zt_of (i := 302) (by decide +kernel) rfl⟩, ⟨zt_of (i := 1) (by decide +kernel) rfl, by decide, by decide, by decide +kernel⟩⟩
theorem s_law_83 : zSiteV R_law 83 y_SM_parent 1 := ⟨⟨zt_of (i := 304) (by decide +kernel) rfl, zt_of (i := 305) (by decide +kernel) rfl, zt_of (i := 306) (by decide +kernel) rfl⟩, ⟨zt_of (i := 1) (by decide +kernel) rfl, by decide, by decide, by decide +kernel⟩⟩
theorem s_law_87 : zSiteV R_law 87 y_SM_entries 1 := ⟨⟨zt_of (i := 308) (by decide +kernel) rfl, zt_of (i := 309) (by decide +kernel) rfl, zt_of (i := 310) (by decide +kernel) rfl⟩, ⟨zt_of (i := 1) (by decide +kernel) rfl, by decide, by decide, by decide +kernel⟩⟩
theorem s_law_91 : zSiteV R_law 91 y_SM_view 2 := ⟨⟨zt_of (i := 312) (by decide +kernel) rfl, zt_of (i := 313) (by decide +kernel) rfl, zt_of (i := 314) (by decide +kernel) rfl⟩, ⟨zt_of (i := 1) (by decide +kernel) rfl, by decide, by decide, by decide +kernel⟩⟩
theorem s_SM_164 : zSiteVN R_SM 164 y_Ro_areaInView "ScopedMemory" 1 := ⟨⟨zn_of (i := 316) (by decide +kernel) rfl, zt_of (i := 318) (by decide +kernel) rfl, zs_of (i := 29) (by decide +kernel) rfl⟩, ⟨zt_of (i := 4) (by decide +kernel) rfl, by decide, by decide, by decide +kernel⟩⟩
theorem s_law_95 : zSiteV R_law 95 y_SM_count 1 := ⟨⟨zt_of (i := 320) (by decide +kernel) rfl, zt_of (i := 321) (by decide +kernel) rfl, zt_of (i := 322) (by decide +kernel) rfl⟩, ⟨zt_of (i := 1) (by decide +kernel) rfl, by decide, by decide, by decide +kernel⟩⟩
theorem s_SM_167 : zSiteV R_SM 167 y_SM_begunThreads 0 := ⟨⟨zt_of (i := 324) (by decide +kernel) rfl, zt_of (i := 326) (by decide +kernel) rfl, zs_of (i := 30) (by decide +kernel) rfl⟩, ⟨zt_of (i := 1) (by decide +kernel) rfl, by decide, by decide, by decide +kernel⟩⟩
theorem s_law_9 : zSiteS R_law 9 y_law_cell 2 := ⟨⟨zt_of (i := 328) (by decide +kernel) rfl, zt_of (i := 329) (by decide +kernel) rfl⟩, ⟨zt_of (i := 0) (by decide +kernel) rfl, by decide, by decide, by decide +kernel⟩⟩
theorem s_law_20 : zSiteI R_law 20 y_MM_init 2 := ⟨⟨zt_of (i := 333) (by decide +kernel) rfl, zt_of (i := 334) (by decide +kernel) rfl, rfl⟩, ⟨zt_of (i := 6) (by decide +kernel) rfl, by decide, by decide, by decide +kernel⟩⟩
theorem s_MM_60 : zSiteV R_MM 60 y_MM_clamp 1 := ⟨⟨zt_of (i := 337) (by decide +kernel) rfl, zt_of (i := 339) (by decide +kernel) rfl, zs_of (i := 31) (by decide +kernel) rfl⟩, ⟨zt_of (i := 6) (by decide +kernel) rfl, by decide, by decide, by decide +kernel⟩⟩
theorem s_law_25 : zSiteV R_law 25 y_MM_scope 1 := ⟨⟨zt_of (i := 390) (by decide +kernel) rfl, zt_of (i := 391) (by decide +kernel) rfl, zt_of (i := 392) (by decide +kernel) rfl⟩, ⟨zt_of (i := 6) (by decide +kernel) rfl, by decide, by decide, by decide +kernel⟩⟩
theorem s_law_30 : zSiteV R_law 30 y_MM_begin 2 := ⟨⟨zt_of (i := 394) (by decide +kernel) rfl, zt_of (i := 395) (by decide +kernel) rfl, zt_of (i := 396) (by decide +kernel) rfl⟩, ⟨zt_of (i := 6) (by decide +kernel) rfl, by decide, by decide, by decide +kernel⟩⟩
theorem s_MM_64 : zSiteV R_MM 64 y_MM_step 4 := ⟨⟨zt_of (i := 398) (by decide +kernel) rfl, zt_of (i := 400) (by decide +kernel) rfl, zs_of (i := 32) (by decide +kernel) rfl⟩, ⟨zt_of (i := 6) (by decide +kernel) rfl, by decide, by decide, by decide +kernel⟩⟩
theorem s_law_35 : zSiteV R_law 35 y_MM_enter 2 := ⟨⟨zt_of (i := 402) (by decide +kernel) rfl, zt_of (i := 403) (by decide +kernel) rfl, zt_of (i := 404) (by decide +kernel) rfl⟩, ⟨zt_of (i := 6) (by decide +kernel) rfl, by decide, by decide, by decide +kernel⟩⟩
theorem s_MM_72 : zSiteV R_MM 72 y_MM_idle 1 := ⟨⟨zt_of (i := 406) (by decide +kernel) rfl, zt_of (i := 408) (by decide +kernel) rfl, zs_of (i := 33) (by decide +kernel) rfl⟩, ⟨zt_of (i := 6) (by decide +kernel) rfl, by decide, by decide, by decide +kernel⟩⟩
theorem s_MM_76 : zSiteV R_MM 76 y_MM_noScope 1 := ⟨⟨zt_of (i := 410) (by decide +kernel) rfl, zt_of (i := 412) (by decide +kernel) rfl, zs_of (i := 34) (by decide +kernel) rfl⟩, ⟨zt_of (i := 6) (by decide +kernel) rfl, by decide, by decide, by decide +kernel⟩⟩
theorem s_MM_79 : zSiteV R_MM 79 y_MM_stepWith 2 := ⟨⟨zt_of (i := 414) (by decide +kernel) rfl, zt_of (i := 416) (by decide +kernel) rfl, zs_of (i := 35) (by decide +kernel) rfl⟩, ⟨zt_of (i := 6) (by decide +kernel) rfl, by decide, by decide, by decide +kernel⟩⟩
theorem s_MM_68 : zSiteV R_MM 68 y_MM_viewed 2 := ⟨⟨zt_of (i := 418) (by decide +kernel) rfl, zt_of (i := 420) (by decide +kernel) rfl, zs_of (i := 36) (by decide +kernel) rfl⟩, ⟨zt_of (i := 6) (by decide +kernel) rfl, by decide, by decide, by decide +kernel⟩⟩
theorem s_MM_82 : zSiteV R_MM 82 y_MM_nearest 1 := ⟨⟨zt_of (i := 422) (by decide +kernel) rfl, zt_of (i := 424) (by decide +kernel) rfl, zs_of (i := 37) (by decide +kernel) rfl⟩, ⟨zt_of (i := 6) (by decide +kernel) rfl, by decide, by decide, by decide +kernel⟩⟩
theorem s_law_39 : zSiteV R_law 39 y_MM_turn 2 := ⟨⟨zt_of (i := 426) (by decide +kernel) rfl, zt_of (i := 427) (by decide +kernel) rfl, zt_of (i := 428) (by decide +kernel) rfl⟩, ⟨zt_of (i := 6) (by decide +kernel) rfl, by decide, by decide, by decide +kernel⟩⟩
theorem s_MM_85 : zSiteV R_MM 85 y_MM_noArea 1 := ⟨⟨zt_of (i := 430) (by decide +kernel) rfl, zt_of (i := 432) (by decide +kernel) rfl, zs_of (i := 38) (by decide +kernel) rfl⟩, ⟨zt_of (i := 6) (by decide +kernel) rfl, by decide, by decide, by decide +kernel⟩⟩
theorem s_law_43 : zSiteV R_law 43 y_MM_leave 1 := ⟨⟨zt_of (i := 434) (by decide +kernel) rfl, zt_of (i := 435) (by decide +kernel) rfl, zt_of (i := 436) (by decide +kernel) rfl⟩, ⟨zt_of (i := 6) (by decide +kernel) rfl, by decide, by decide, by decide +kernel⟩⟩
theorem s_MM_88 : zSiteV R_MM 88 y_MM_empty 1 := ⟨⟨zt_of (i := 438) (by decide +kernel) rfl, zt_of (i := 440) (by decide +kernel) rfl, zs_of (i := 39) (by decide +kernel) rfl⟩, ⟨zt_of (i := 6) (by decide +kernel) rfl, by decide, by decide, by decide +kernel⟩⟩
theorem s_law_47 : zSiteV R_law 47 y_MM_make 2 := ⟨⟨zt_of (i := 442) (by decide +kernel) rfl, zt_of (i := 443) (by decide +kernel) rfl, zt_of (i := 444) (by decide +kernel) rfl⟩, ⟨zt_of (i := 6) (by decide +kernel) rfl, by decide, by decide, by decide +kernel⟩⟩
theorem s_MM_92 : zSiteV R_MM 92 y_MM_current 1 := ⟨⟨zt_of (i := 446) (by decide +kernel) rfl, zt_of (i := 448) (by decide +kernel) rfl, zs_of (i := 40) (by decide +kernel) rfl⟩, ⟨zt_of (i := 6) (by decide +kernel) rfl, by decide, by decide, by decide +kernel⟩⟩
theorem s_MM_95 : zSiteV R_MM 95 y_MM_used 1 := ⟨⟨zt_of (i := 450) (by decide +kernel) rfl, zt_of (i := 452) (by decide +kernel) rfl, zs_of (i := 41) (by decide +kernel) rfl⟩, ⟨zt_of (i := 6) (by decide +kernel) rfl, by decide, by decide, by decide +kernel⟩⟩
theorem s_law_52 : zSiteV R_law 52 y_MM_put 4 := ⟨⟨zt_of (i := 454) (by decide +kernel) rfl, zt_of (i := 455) (by decide +kernel) rfl, zt_of (i := 456) (by decide +kernel) rfl⟩, ⟨zt_of (i := 6) (by decide +kernel) rfl, by decide, by decide, by decide +kernel⟩⟩
theorem s_MM_102 : zSiteV R_MM 102 y_MM_noObject 1 := ⟨⟨zt_of (i := 458) (by decide +kernel) rfl, zt_of (i := 460) (by decide +kernel) rfl, zs_of (i := 42) (by decide +kernel) rfl⟩, ⟨zt_of (i := 6) (by decide +kernel) rfl, by decide, by decide, by decide +kernel⟩⟩
theorem s_MM_105 : zSiteV R_MM 105 y_MM_sees 2 := ⟨⟨zt_of (i := 462) (by decide +kernel) rfl, zt_of (i := 464) (by decide +kernel) rfl, zs_of (i := 43) (by decide +kernel) rfl⟩, ⟨zt_of (i := 6) (by decide +kernel) rfl, by decide, by decide, by decide +kernel⟩⟩
theorem s_MM_108 : zSiteV R_MM 108 y_MM_mayPoint 2 := ⟨⟨zt_of (i := 466) (by decide +kernel) rfl, zt_of (i := 468) (by decide +kernel) rfl, zs_of (i := 44) (by decide +kernel) rfl⟩, ⟨zt_of (i := 6) (by decide +kernel) rfl, by decide, by decide, by decide +kernel⟩⟩
theorem s_MM_98 : zSiteV R_MM 98 y_MM_liesIn 2 := ⟨⟨zt_of (i := 470) (by decide +kernel) rfl, zt_of (i := 472) (by decide +kernel) rfl, zs_of (i := 45) (by decide +kernel) rfl⟩, ⟨zt_of (i := 6) (by decide +kernel) rfl, by decide, by decide, by decide +kernel⟩⟩
theorem s_law_57 : zSiteV R_law 57 y_MM_get 3 := ⟨⟨zt_of (i := 474) (by decide +kernel) rfl, zt_of (i := 475) (by decide +kernel) rfl, zt_of (i := 476) (by decide +kernel) rfl⟩, ⟨zt_of (i := 6) (by decide +kernel) rfl, by decide, by decide, by decide +kernel⟩⟩
theorem s_law_61 : zSiteV R_law 61 y_MM_hang 3 := ⟨⟨zt_of (i := 478) (by decide +kernel) rfl, zt_of (i := 479) (by decide +kernel) rfl, zt_of (i := 480) (by decide +kernel) rfl⟩, ⟨zt_of (i := 6) (by decide +kernel) rfl, by decide, by decide, by decide +kernel⟩⟩
theorem s_law_65 : zSiteV R_law 65 y_MM_portal 2 := ⟨⟨zt_of (i := 482) (by decide +kernel) rfl, zt_of (i := 483) (by decide +kernel) rfl, zt_of (i := 484) (by decide +kernel) rfl⟩, ⟨zt_of (i := 6) (by decide +kernel) rfl, by decide, by decide, by decide +kernel⟩⟩
theorem s_law_69 : zSiteV R_law 69 y_MM_assign 3 := ⟨⟨zt_of (i := 486) (by decide +kernel) rfl, zt_of (i := 487) (by decide +kernel) rfl, zt_of (i := 488) (by decide +kernel) rfl⟩, ⟨zt_of (i := 6) (by decide +kernel) rfl, by decide, by decide, by decide +kernel⟩⟩
theorem s_law_74 : zSiteV R_law 74 y_MM_collect 0 := ⟨⟨zt_of (i := 490) (by decide +kernel) rfl, zt_of (i := 491) (by decide +kernel) rfl, zt_of (i := 492) (by decide +kernel) rfl⟩, ⟨zt_of (i := 6) (by decide +kernel) rfl, by decide, by decide, by decide +kernel⟩⟩
theorem s_MM_114 : zSiteV R_MM 114 y_MM_keep 0 := ⟨⟨zt_of (i := 494) (by decide +kernel) rfl, zt_of (i := 496) (by decide +kernel) rfl, zs_of (i := 46) (by decide +kernel) rfl⟩, ⟨zt_of (i := 6) (by decide +kernel) rfl, by decide, by decide, by decide +kernel⟩⟩
theorem s_MM_111 : zSiteV R_MM 111 y_MM_keeps 1 := ⟨⟨zt_of (i := 498) (by decide +kernel) rfl, zt_of (i := 500) (by decide +kernel) rfl, zs_of (i := 47) (by decide +kernel) rfl⟩, ⟨zt_of (i := 6) (by decide +kernel) rfl, by decide, by decide, by decide +kernel⟩⟩
theorem s_law_78 : zSiteV R_law 78 y_MM_areaOf 1 := ⟨⟨zt_of (i := 502) (by decide +kernel) rfl, zt_of (i := 503) (by decide +kernel) rfl, zt_of (i := 504) (by decide +kernel) rfl⟩, ⟨zt_of (i := 6) (by decide +kernel) rfl, by decide, by decide, by decide +kernel⟩⟩
theorem s_law_82 : zSiteV R_law 82 y_MM_room 1 := ⟨⟨zt_of (i := 506) (by decide +kernel) rfl, zt_of (i := 507) (by decide +kernel) rfl, zt_of (i := 508) (by decide +kernel) rfl⟩, ⟨zt_of (i := 6) (by decide +kernel) rfl, by decide, by decide, by decide +kernel⟩⟩
theorem s_law_86 : zSiteV R_law 86 y_MM_parent 1 := ⟨⟨zt_of (i := 510) (by decide +kernel) rfl, zt_of (i := 511) (by decide +kernel) rfl, zt_of (i := 512) (by decide +kernel) rfl⟩, ⟨zt_of (i := 6) (by decide +kernel) rfl, by decide, by decide, by decide +kernel⟩⟩
theorem s_law_90 : zSiteV R_law 90 y_MM_entries 1 := ⟨⟨zt_of (i := 514) (by decide +kernel) rfl, zt_of (i := 515) (by decide +kernel) rfl, zt_of (i := 516) (by decide +kernel) rfl⟩, ⟨zt_of (i := 6) (by decide +kernel) rfl, by decide, by decide, by decide +kernel⟩⟩
theorem s_law_94 : zSiteV R_law 94 y_MM_view 2 := ⟨⟨zt_of (i := 518) (by decide +kernel) rfl, zt_of (i := 519) (by decide +kernel) rfl, zt_of (i := 520) (by decide +kernel) rfl⟩, ⟨zt_of (i := 6) (by decide +kernel) rfl, by decide, by decide, by decide +kernel⟩⟩
theorem s_law_98 : zSiteV R_law 98 y_MM_count 1 := ⟨⟨zt_of (i := 522) (by decide +kernel) rfl, zt_of (i := 523) (by decide +kernel) rfl, zt_of (i := 524) (by decide +kernel) rfl⟩, ⟨zt_of (i := 6) (by decide +kernel) rfl, by decide, by decide, by decide +kernel⟩⟩
