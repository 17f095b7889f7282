set_option maxHeartbeats 400000 in
set_option maxRecDepth 100000 in
theorem c_SM_isThread {l : Launch} {D : va_G} {dA : Nat → ClassId} {lo n : Nat} {σ : zS} {t : Int32} : xM l y_SM_isThread b_SM_isThread 1 (some .boolean) 0 D dA lo n [.int t] σ (some (.int (xf_isThread t))) σ := by
  refine zM_of (lv0 := [(0, .int t)]) (by decide) rfl rfl rfl ?_
  intro p e s m below meth c C hr hnm hsz
  have C : zC p s m ([.int t] : List Value).toArray meth c b_SM_isThread 1 R_SM D dA := C
  refine zz_iload_n C d_SM_isThread_0 rfl ?_
  refine zz_if_lt (tgt := 13) C d_SM_isThread_1 (by decide) (fun h1 => ?_) (fun h1 => ?_)
  · refine zz_iconst (x := 0) C d_SM_isThread_13 rfl ?_
    exact xr_i C hr rfl d_SM_isThread_14 (by simp only [xf_isThread, if_pos h1] <;> simp [xf_isThread, z_at]) rfl
  · refine zz_iload_n C d_SM_isThread_4 rfl ?_
    refine zz_iconst (x := 4) C d_SM_isThread_5 rfl ?_
    refine zz_icmp_ge (tgt := 13) C d_SM_isThread_6 (by decide) (fun h6 => ?_) (fun h6 => ?_)
    · refine zz_iconst (x := 0) C d_SM_isThread_13 rfl ?_
      exact xr_i C hr rfl d_SM_isThread_14 (by simp only [xf_isThread, if_neg h1, if_pos h6] <;> simp [xf_isThread, z_at]) rfl
    · refine zz_iconst (x := 1) C d_SM_isThread_9 rfl ?_
      refine zz_goto (tgt := 14) C d_SM_isThread_10 (by decide) ?_
      exact xr_i C hr rfl d_SM_isThread_14 (by simp only [xf_isThread, if_neg h1, if_neg h6] <;> simp [xf_isThread, z_at]) rfl
set_option maxHeartbeats 400000 in
set_option maxRecDepth 100000 in
theorem c_SM_isBegun {l : Launch} {D : va_G} {dA : Nat → ClassId} {lo n : Nat} {σ : zS} {t : Int32} : xM l y_SM_isBegun b_SM_isBegun 2 (some .boolean) 1 D dA lo n [.ref (xa0 lo 0), .int t] σ (some (.int (xf_isBegun σ t))) σ := by
  refine zM_of (lv0 := [(0, .ref (xa0 lo 0)), (1, .int t)]) (by decide) rfl rfl rfl ?_
  intro p e s m below meth c C hr hnm hsz
  have C : zC p s m ([.ref (xa0 lo 0), .int t] : List Value).toArray meth c b_SM_isBegun 2 R_SM D dA := C
  refine zz_iload_n C d_SM_isBegun_0 rfl ?_
  refine xc_Si C s_SM_48 c_SM_isThread rfl rfl d_SM_isBegun_1 k_SM_isThread ⟨by decide, by decide⟩ rfl ?_
  refine zz_if_eq (tgt := 23) C d_SM_isBegun_4 (by decide) (fun h4 => ?_) (fun h4 => ?_)
  · refine zz_iconst (x := 0) C d_SM_isBegun_23 rfl ?_
    exact xr_i C hr rfl d_SM_isBegun_24 (by simp only [xf_isBegun, if_pos h4] <;> simp [xf_isBegun, z_at]) rfl
  · refine zz_aload_n C d_SM_isBegun_7 rfl ?_
    refine zz_get C (ci := 3) (N := 8) 2 rfl zi_SM (by decide) fl_SM_23 (xw_0 Nat.zero_lt_one) rfl d_SM_isBegun_8 ?_
    refine zz_iload_n C d_SM_isBegun_11 rfl ?_
    refine zz_aald C (t0 := 4) rfl (xw_3 Nat.zero_lt_one) (x_thr h4) (fun h9 => if_pos h9) d_SM_isBegun_12 (fun b12 => ?_)
    refine zz_getN C (ci := 2) (N := 5) 3 rfl zi_Ro (by decide) fn_SM_92 (xw_9 b12) rfl d_SM_isBegun_13 ?_
    refine zz_if_le (tgt := 23) C d_SM_isBegun_16 (by decide) (fun h16 => ?_) (fun h16 => ?_)
    · refine zz_iconst (x := 0) C d_SM_isBegun_23 rfl ?_
      exact xr_i C hr rfl d_SM_isBegun_24 (by simp only [xf_isBegun, if_neg h4, if_pos h16] <;> simp [xf_isBegun, z_at]) rfl
    · refine zz_iconst (x := 1) C d_SM_isBegun_19 rfl ?_
      refine zz_goto (tgt := 24) C d_SM_isBegun_20 (by decide) ?_
      exact xr_i C hr rfl d_SM_isBegun_24 (by simp only [xf_isBegun, if_neg h4, if_neg h16] <;> simp [xf_isBegun, z_at]) rfl
set_option maxHeartbeats 400000 in
set_option maxRecDepth 100000 in
theorem c_SM_isArea {l : Launch} {D : va_G} {dA : Nat → ClassId} {lo n : Nat} {σ : zS} {a : Int32} : xM l y_SM_isArea b_SM_isArea 2 (some .boolean) 0 D dA lo n [.ref (xa0 lo 0), .int a] σ (some (.int (xf_isArea σ a))) σ := by
  refine zM_of (lv0 := [(0, .ref (xa0 lo 0)), (1, .int a)]) (by decide) rfl rfl rfl ?_
  intro p e s m below meth c C hr hnm hsz
  have C : zC p s m ([.ref (xa0 lo 0), .int a] : List Value).toArray meth c b_SM_isArea 2 R_SM D dA := C
  refine zz_iload_n C d_SM_isArea_0 rfl ?_
  refine zz_if_lt (tgt := 16) C d_SM_isArea_1 (by decide) (fun h1 => ?_) (fun h1 => ?_)
  · refine zz_iconst (x := 0) C d_SM_isArea_16 rfl ?_
    exact xr_i C hr rfl d_SM_isArea_17 (by simp only [xf_isArea, if_pos h1] <;> simp [xf_isArea, z_at]) rfl
  · refine zz_iload_n C d_SM_isArea_4 rfl ?_
    refine zz_aload_n C d_SM_isArea_5 rfl ?_
    refine zz_get C (ci := 3) (N := 8) 6 rfl zi_SM (by decide) fl_SM_45 (xw_0 Nat.zero_lt_one) rfl d_SM_isArea_6 ?_
    refine zz_icmp_ge (tgt := 16) C d_SM_isArea_9 (by decide) (fun h9 => ?_) (fun h9 => ?_)
    · refine zz_iconst (x := 0) C d_SM_isArea_16 rfl ?_
      exact xr_i C hr rfl d_SM_isArea_17 (by simp only [xf_isArea, if_neg h1, if_pos h9] <;> simp [xf_isArea, z_at]) rfl
    · refine zz_iconst (x := 1) C d_SM_isArea_12 rfl ?_
      refine zz_goto (tgt := 17) C d_SM_isArea_13 (by decide) ?_
      exact xr_i C hr rfl d_SM_isArea_17 (by simp only [xf_isArea, if_neg h1, if_neg h9] <;> simp [xf_isArea, z_at]) rfl
set_option maxHeartbeats 400000 in
set_option maxRecDepth 100000 in
theorem c_SM_isScope {l : Launch} {D : va_G} {dA : Nat → ClassId} {lo n : Nat} {σ : zS} {a : Int32} : xM l y_SM_isScope b_SM_isScope 2 (some .boolean) 1 D dA lo n [.ref (xa0 lo 0), .int a] σ (some (.int (xf_isScope σ a))) σ := by
  refine zM_of (lv0 := [(0, .ref (xa0 lo 0)), (1, .int a)]) (by decide) rfl rfl rfl ?_
  intro p e s m below meth c C hr hnm hsz
  have C : zC p s m ([.ref (xa0 lo 0), .int a] : List Value).toArray meth c b_SM_isScope 2 R_SM D dA := C
  refine zz_iload_n C d_SM_isScope_0 rfl ?_
  refine zz_iconst (x := 2) C d_SM_isScope_1 rfl ?_
  refine zz_icmp_lt (tgt := 17) C d_SM_isScope_2 (by decide) (fun h2 => ?_) (fun h2 => ?_)
  · refine zz_iconst (x := 0) C d_SM_isScope_17 rfl ?_
    exact xr_i C hr rfl d_SM_isScope_18 (by simp only [xf_isScope, if_pos h2] <;> simp [xf_isScope, z_at]) rfl
  · refine zz_aload_n C d_SM_isScope_5 rfl ?_
    refine zz_iload_n C d_SM_isScope_6 rfl ?_
    refine xc_Vi C (xw_0 Nat.zero_lt_one) rfl s_SM_86 c_SM_isArea rfl rfl d_SM_isScope_7 k_SM_isArea ⟨by decide, by decide⟩ rfl ?_
    refine zz_if_eq (tgt := 17) C d_SM_isScope_10 (by decide) (fun h10 => ?_) (fun h10 => ?_)
    · refine zz_iconst (x := 0) C d_SM_isScope_17 rfl ?_
      exact xr_i C hr rfl d_SM_isScope_18 (by simp only [xf_isScope, if_neg h2, if_pos h10] <;> simp [xf_isScope, z_at]) rfl
    · refine zz_iconst (x := 1) C d_SM_isScope_13 rfl ?_
      refine zz_goto (tgt := 18) C d_SM_isScope_14 (by decide) ?_
      exact xr_i C hr rfl d_SM_isScope_18 (by simp only [xf_isScope, if_neg h2, if_neg h10] <;> simp [xf_isScope, z_at]) rfl
set_option maxHeartbeats 400000 in
set_option maxRecDepth 100000 in
theorem c_SM_isObject {l : Launch} {D : va_G} {dA : Nat → ClassId} {lo n : Nat} {σ : zS} {o : Int32} : xM l y_SM_isObject b_SM_isObject 2 (some .boolean) 0 D dA lo n [.ref (xa0 lo 0), .int o] σ (some (.int (xf_isObject σ o))) σ := by
  refine zM_of (lv0 := [(0, .ref (xa0 lo 0)), (1, .int o)]) (by decide) rfl rfl rfl ?_
  intro p e s m below meth c C hr hnm hsz
  have C : zC p s m ([.ref (xa0 lo 0), .int o] : List Value).toArray meth c b_SM_isObject 2 R_SM D dA := C
  refine zz_iload_n C d_SM_isObject_0 rfl ?_
  refine zz_if_lt (tgt := 27) C d_SM_isObject_1 (by decide) (fun h1 => ?_) (fun h1 => ?_)
  · refine zz_iconst (x := 0) C d_SM_isObject_27 rfl ?_
    exact xr_i C hr rfl d_SM_isObject_28 (by simp only [xf_isObject, if_pos h1] <;> simp [xf_isObject, z_at]) rfl
  · refine zz_iload_n C d_SM_isObject_4 rfl ?_
    refine zz_bipush (x := 40) C d_SM_isObject_5 rfl ?_
    refine zz_icmp_ge (tgt := 27) C d_SM_isObject_7 (by decide) (fun h7 => ?_) (fun h7 => ?_)
    · refine zz_iconst (x := 0) C d_SM_isObject_27 rfl ?_
      exact xr_i C hr rfl d_SM_isObject_28 (by simp only [xf_isObject, if_neg h1, if_pos h7] <;> simp [xf_isObject, z_at]) rfl
    · refine zz_aload_n C d_SM_isObject_10 rfl ?_
      refine zz_get C (ci := 3) (N := 8) 1 rfl zi_SM (by decide) fl_SM_17 (xw_0 Nat.zero_lt_one) rfl d_SM_isObject_11 ?_
      refine zz_iload_n C d_SM_isObject_14 rfl ?_
      refine zz_aald C (t0 := 3) rfl (xw_2 Nat.zero_lt_one) (z_vin h1 h7 rfl) (fun h9 => if_pos h9) d_SM_isObject_15 (fun b15 => ?_)
      refine zz_getN C (ci := 1) (N := 4) 1 rfl zi_Ce (by decide) fn_SM_137 (xw_7 b15) rfl d_SM_isObject_16 ?_
      refine zz_iconst (x := -1) C d_SM_isObject_19 rfl ?_
      refine zz_icmp_eq (tgt := 27) C d_SM_isObject_20 (by decide) (fun h20 => ?_) (fun h20 => ?_)
      · refine zz_iconst (x := 0) C d_SM_isObject_27 rfl ?_
        exact xr_i C hr rfl d_SM_isObject_28 (by simp only [xf_isObject, if_neg h1, if_neg h7, if_pos h20] <;> simp [xf_isObject, z_at]) rfl
      · refine zz_iconst (x := 1) C d_SM_isObject_23 rfl ?_
        refine zz_goto (tgt := 28) C d_SM_isObject_24 (by decide) ?_
        exact xr_i C hr rfl d_SM_isObject_28 (by simp only [xf_isObject, if_neg h1, if_neg h7, if_neg h20] <;> simp [xf_isObject, z_at]) rfl
set_option maxHeartbeats 400000 in
set_option maxRecDepth 100000 in
theorem c_SM_isObjectOrNull {l : Launch} {D : va_G} {dA : Nat → ClassId} {lo n : Nat} {σ : zS} {o : Int32} : xM l y_SM_isObjectOrNull b_SM_isObjectOrNull 2 (some .boolean) 1 D dA lo n [.ref (xa0 lo 0), .int o] σ (some (.int (xf_isObjectOrNull σ o))) σ := by
  refine zM_of (lv0 := [(0, .ref (xa0 lo 0)), (1, .int o)]) (by decide) rfl rfl rfl ?_
  intro p e s m below meth c C hr hnm hsz
  have C : zC p s m ([.ref (xa0 lo 0), .int o] : List Value).toArray meth c b_SM_isObjectOrNull 2 R_SM D dA := C
  refine zz_iload_n C d_SM_isObjectOrNull_0 rfl ?_
  refine zz_iconst (x := -1) C d_SM_isObjectOrNull_1 rfl ?_
  refine zz_icmp_eq (tgt := 13) C d_SM_isObjectOrNull_2 (by decide) (fun h2 => ?_) (fun h2 => ?_)
  · refine zz_iconst (x := 1) C d_SM_isObjectOrNull_13 rfl ?_
    refine zz_goto (tgt := 18) C d_SM_isObjectOrNull_14 (by decide) ?_
    exact xr_i C hr rfl d_SM_isObjectOrNull_18 (by simp only [xf_isObjectOrNull, if_pos h2] <;> simp [xf_isObjectOrNull, z_at]) rfl
  · refine zz_aload_n C d_SM_isObjectOrNull_5 rfl ?_
    refine zz_iload_n C d_SM_isObjectOrNull_6 rfl ?_
    refine xc_Vi C (xw_0 Nat.zero_lt_one) rfl s_SM_161 c_SM_isObject rfl rfl d_SM_isObjectOrNull_7 k_SM_isObject ⟨by decide, by decide⟩ rfl ?_
    refine zz_if_eq (tgt := 17) C d_SM_isObjectOrNull_10 (by decide) (fun h10 => ?_) (fun h10 => ?_)
    · refine zz_iconst (x := 0) C d_SM_isObjectOrNull_17 rfl ?_
      exact xr_i C hr rfl d_SM_isObjectOrNull_18 (by simp only [xf_isObjectOrNull, if_neg h2, if_pos h10] <;> simp [xf_isObjectOrNull, z_at]) rfl
    · refine zz_iconst (x := 1) C d_SM_isObjectOrNull_13 rfl ?_
      refine zz_goto (tgt := 18) C d_SM_isObjectOrNull_14 (by decide) ?_
      exact xr_i C hr rfl d_SM_isObjectOrNull_18 (by simp only [xf_isObjectOrNull, if_neg h2, if_neg h10] <;> simp [xf_isObjectOrNull, z_at]) rfl
set_option maxHeartbeats 400000 in
set_option maxRecDepth 100000 in
theorem c_SM_hasField {l : Launch} {D : va_G} {dA : Nat → ClassId} {lo n : Nat} {σ : zS} {o f : Int32} : xM l y_SM_hasField b_SM_hasField 3 (some .boolean) 1 D dA lo n [.ref (xa0 lo 0), .int o, .int f] σ (some (.int (xf_hasField σ o f))) σ := by
  refine zM_of (lv0 := [(0, .ref (xa0 lo 0)), (1, .int o), (2, .int f)]) (by decide) rfl rfl rfl ?_
  intro p e s m below meth c C hr hnm hsz
  have C : zC p s m ([.ref (xa0 lo 0), .int o, .int f] : List Value).toArray meth c b_SM_hasField 3 R_SM D dA := C
  refine zz_aload_n C d_SM_hasField_0 rfl ?_
  refine zz_iload_n C d_SM_hasField_1 rfl ?_
  refine xc_Vi C (xw_0 Nat.zero_lt_one) rfl s_SM_161 c_SM_isObject rfl rfl d_SM_hasField_2 k_SM_isObject ⟨by decide, by decide⟩ rfl ?_
  refine zz_if_eq (tgt := 29) C d_SM_hasField_5 (by decide) (fun h5 => ?_) (fun h5 => ?_)
  · refine zz_iconst (x := 0) C d_SM_hasField_29 rfl ?_
    exact xr_i C hr rfl d_SM_hasField_30 (by simp only [xf_hasField, if_pos h5] <;> simp [xf_hasField, z_at]) rfl
  · refine zz_iload_n C d_SM_hasField_8 rfl ?_
    refine zz_if_lt (tgt := 29) C d_SM_hasField_9 (by decide) (fun h9 => ?_) (fun h9 => ?_)
    · refine zz_iconst (x := 0) C d_SM_hasField_29 rfl ?_
      exact xr_i C hr rfl d_SM_hasField_30 (by simp only [xf_hasField, if_neg h5, if_pos h9] <;> simp [xf_hasField, z_at]) rfl
    · refine zz_iload_n C d_SM_hasField_12 rfl ?_
      refine zz_aload_n C d_SM_hasField_13 rfl ?_
      refine zz_get C (ci := 3) (N := 8) 1 rfl zi_SM (by decide) fl_SM_17 (xw_0 Nat.zero_lt_one) rfl d_SM_hasField_14 ?_
      refine zz_iload_n C d_SM_hasField_17 rfl ?_
      refine zz_aald C (t0 := 3) rfl (xw_2 Nat.zero_lt_one) (x_obj h5) (fun h9 => if_pos h9) d_SM_hasField_18 (fun b18 => ?_)
      refine zz_getN C (ci := 1) (N := 4) 2 rfl zi_Ce (by decide) fn_SM_182 (xw_7 b18) rfl d_SM_hasField_19 ?_
      refine zz_icmp_ge (tgt := 29) C d_SM_hasField_22 (by decide) (fun h22 => ?_) (fun h22 => ?_)
      · refine zz_iconst (x := 0) C d_SM_hasField_29 rfl ?_
        exact xr_i C hr rfl d_SM_hasField_30 (by simp only [xf_hasField, if_neg h5, if_neg h9, if_pos h22] <;> simp [xf_hasField, z_at]) rfl
      · refine zz_iconst (x := 1) C d_SM_hasField_25 rfl ?_
        refine zz_goto (tgt := 30) C d_SM_hasField_26 (by decide) ?_
        exact xr_i C hr rfl d_SM_hasField_30 (by simp only [xf_hasField, if_neg h5, if_neg h9, if_neg h22] <;> simp [xf_hasField, z_at]) rfl
set_option maxHeartbeats 400000 in
set_option maxRecDepth 100000 in
theorem c_SM_objectOrNull {l : Launch} {D : va_G} {dA : Nat → ClassId} {lo n : Nat} {σ : zS} {o : Int32} : xM l y_SM_objectOrNull b_SM_objectOrNull 1 (some .int) 0 D dA lo n [.int o] σ (some (.int (xf_objectOrNull o))) σ := by
  refine zM_of (lv0 := [(0, .int o)]) (by decide) rfl rfl rfl ?_
  intro p e s m below meth c C hr hnm hsz
  have C : zC p s m ([.int o] : List Value).toArray meth c b_SM_objectOrNull 1 R_SM D dA := C
  refine zz_iload_n C d_SM_objectOrNull_0 rfl ?_
  refine zz_iconst (x := -1) C d_SM_objectOrNull_1 rfl ?_
  refine zz_icmp_ne (tgt := 10) C d_SM_objectOrNull_2 (by decide) (fun h2 => ?_) (fun h2 => ?_)
  · refine zz_iload_n C d_SM_objectOrNull_10 rfl ?_
    exact xr_i C hr rfl d_SM_objectOrNull_11 (by simp only [xf_objectOrNull, if_neg h2] <;> simp [xf_objectOrNull, z_at]) rfl
  · refine zz_bipush (x := -6) C d_SM_objectOrNull_5 rfl ?_
    refine zz_goto (tgt := 11) C d_SM_objectOrNull_7 (by decide) ?_
    exact xr_i C hr rfl d_SM_objectOrNull_11 (by simp only [xf_objectOrNull, if_pos h2] <;> simp [xf_objectOrNull, z_at]) rfl
set_option maxHeartbeats 400000 in
set_option maxRecDepth 100000 in
theorem c_SM_sees {l : Launch} {D : va_G} {dA : Nat → ClassId} {lo n : Nat} {σ : zS} {t o : Int32} (I : xI σ) (ht : vp_in t 4) (ho : vp_in o 40) : xM l y_SM_sees b_SM_sees 4 (some .boolean) 3 D dA lo n [.ref (xa0 lo 0), .int t, .int o] σ (some (.int (xf_sees σ t o))) σ := by
  refine zM_of (lv0 := [(0, .ref (xa0 lo 0)), (1, .int t), (2, .int o)]) (by decide) rfl rfl rfl ?_
  intro p e s m below meth c C hr hnm hsz
  have C : zC p s m ([.ref (xa0 lo 0), .int t, .int o] : List Value).toArray meth c b_SM_sees 4 R_SM D dA := C
  refine zz_aload_n C d_SM_sees_0 rfl ?_
  refine zz_get C (ci := 3) (N := 8) 1 rfl zi_SM (by decide) fl_SM_17 (xw_0 Nat.zero_lt_one) rfl d_SM_sees_1 ?_
  refine zz_iload_n C d_SM_sees_4 rfl ?_
  refine zz_aald C (t0 := 3) rfl (xw_2 Nat.zero_lt_one) ho (fun h9 => if_pos h9) d_SM_sees_5 (fun b5 => ?_)
  refine zz_getN C (ci := 1) (N := 4) 1 rfl zi_Ce (by decide) fn_SM_137 (xw_7 b5) rfl d_SM_sees_6 ?_
  refine zz_istore_n C d_SM_sees_9 (by decide) ?_
  refine zz_iload_n C d_SM_sees_10 rfl ?_
  refine zz_if_ne (tgt := 32) C d_SM_sees_11 (by decide) (fun h11 => ?_) (fun h11 => ?_)
  · refine zz_iload_n C d_SM_sees_32 rfl ?_
    refine zz_iconst (x := 1) C d_SM_sees_33 rfl ?_
    refine zz_icmp_eq (tgt := 50) C d_SM_sees_34 (by decide) (fun h34 => ?_) (fun h34 => ?_)
    · refine zz_iconst (x := 1) C d_SM_sees_50 rfl ?_
      refine zz_goto (tgt := 55) C d_SM_sees_51 (by decide) ?_
      exact xr_i C hr rfl d_SM_sees_55 (by simp only [xf_sees, if_neg h11, if_pos h34] <;> simp [xf_sees, z_at]) rfl
    · refine zz_aload_n C d_SM_sees_37 rfl ?_
      refine zz_get C (ci := 3) (N := 8) 2 rfl zi_SM (by decide) fl_SM_23 (xw_0 Nat.zero_lt_one) rfl d_SM_sees_38 ?_
      refine zz_iload_n C d_SM_sees_41 rfl ?_
      refine zz_aald C (t0 := 4) rfl (xw_3 Nat.zero_lt_one) ht (fun h9 => if_pos h9) d_SM_sees_42 (fun b42 => ?_)
      refine zz_iload_n C d_SM_sees_43 rfl ?_
      refine xc_VNi C (xw_9 b42) rfl s_SM_70 (c_Ro_hasInView b42 I) rfl rfl d_SM_sees_44 k_Ro_hasInView ⟨by decide, by decide⟩ rfl ?_
      refine zz_if_eq (tgt := 54) C d_SM_sees_47 (by decide) (fun h47 => ?_) (fun h47 => ?_)
      · refine zz_iconst (x := 0) C d_SM_sees_54 rfl ?_
        exact xr_i C hr rfl d_SM_sees_55 (by simp only [xf_sees, if_neg h11, if_neg h34, if_pos h47] <;> simp [xf_sees, z_at]) rfl
      · refine zz_iconst (x := 1) C d_SM_sees_50 rfl ?_
        refine zz_goto (tgt := 55) C d_SM_sees_51 (by decide) ?_
        exact xr_i C hr rfl d_SM_sees_55 (by simp only [xf_sees, if_neg h11, if_neg h34, if_neg h47] <;> simp [xf_sees, z_at]) rfl
  · refine zz_aload_n C d_SM_sees_14 rfl ?_
    refine zz_get C (ci := 3) (N := 8) 2 rfl zi_SM (by decide) fl_SM_23 (xw_0 Nat.zero_lt_one) rfl d_SM_sees_15 ?_
    refine zz_iload_n C d_SM_sees_18 rfl ?_
    refine zz_aald C (t0 := 4) rfl (xw_3 Nat.zero_lt_one) ht (fun h9 => if_pos h9) d_SM_sees_19 (fun b19 => ?_)
    refine zz_getN C (ci := 2) (N := 5) 4 rfl zi_Ro (by decide) fn_SM_55 (xw_9 b19) rfl d_SM_sees_20 ?_
    refine zz_if_ne (tgt := 30) C d_SM_sees_23 (by decide) (fun h23 => ?_) (fun h23 => ?_)
    · refine zz_iconst (x := 0) C d_SM_sees_30 rfl ?_
      exact xr_i C hr rfl d_SM_sees_31 (by simp only [xf_sees, if_pos h11, if_neg h23] <;> simp [xf_sees, z_at]) rfl
    · refine zz_iconst (x := 1) C d_SM_sees_26 rfl ?_
      refine zz_goto (tgt := 31) C d_SM_sees_27 (by decide) ?_
      exact xr_i C hr rfl d_SM_sees_31 (by simp only [xf_sees, if_pos h11, if_pos h23] <;> simp [xf_sees, z_at]) rfl
set_option maxHeartbeats 400000 in
set_option maxRecDepth 100000 in
theorem c_SM_seesOrNull {l : Launch} {D : va_G} {dA : Nat → ClassId} {lo n : Nat} {σ : zS} {t o : Int32} (I : xI σ) (ht : vp_in t 4) (ho : z_o 40 o) : xM l y_SM_seesOrNull b_SM_seesOrNull 3 (some .boolean) 4 D dA lo n [.ref (xa0 lo 0), .int t, .int o] σ (some (.int (xf_seesOrNull σ t o))) σ := by
  refine zM_of (lv0 := [(0, .ref (xa0 lo 0)), (1, .int t), (2, .int o)]) (by decide) rfl rfl rfl ?_
  intro p e s m below meth c C hr hnm hsz
  have C : zC p s m ([.ref (xa0 lo 0), .int t, .int o] : List Value).toArray meth c b_SM_seesOrNull 3 R_SM D dA := C
  refine zz_iload_n C d_SM_seesOrNull_0 rfl ?_
  refine zz_iconst (x := -1) C d_SM_seesOrNull_1 rfl ?_
  refine zz_icmp_eq (tgt := 14) C d_SM_seesOrNull_2 (by decide) (fun h2 => ?_) (fun h2 => ?_)
  · refine zz_iconst (x := 1) C d_SM_seesOrNull_14 rfl ?_
    refine zz_goto (tgt := 19) C d_SM_seesOrNull_15 (by decide) ?_
    exact xr_i C hr rfl d_SM_seesOrNull_19 (by simp only [xf_seesOrNull, if_pos h2] <;> simp [xf_seesOrNull, z_at]) rfl
  · refine zz_aload_n C d_SM_seesOrNull_5 rfl ?_
    refine zz_iload_n C d_SM_seesOrNull_6 rfl ?_
    refine zz_iload_n C d_SM_seesOrNull_7 rfl ?_
    refine xc_Vi C (xw_0 Nat.zero_lt_one) rfl s_SM_131 (c_SM_sees I ht (z_ovin ho h2)) rfl rfl d_SM_seesOrNull_8 k_SM_sees ⟨by decide, by decide⟩ rfl ?_
    refine zz_if_eq (tgt := 18) C d_SM_seesOrNull_11 (by decide) (fun h11 => ?_) (fun h11 => ?_)
    · refine zz_iconst (x := 0) C d_SM_seesOrNull_18 rfl ?_
      exact xr_i C hr rfl d_SM_seesOrNull_19 (by simp only [xf_seesOrNull, if_neg h2, if_pos h11] <;> simp [xf_seesOrNull, z_at]) rfl
    · refine zz_iconst (x := 1) C d_SM_seesOrNull_14 rfl ?_
      refine zz_goto (tgt := 19) C d_SM_seesOrNull_15 (by decide) ?_
      exact xr_i C hr rfl d_SM_seesOrNull_19 (by simp only [xf_seesOrNull, if_neg h2, if_neg h11] <;> simp [xf_seesOrNull, z_at]) rfl
set_option maxHeartbeats 400000 in
set_option maxRecDepth 100000 in
theorem c_SM_liesIn {l : Launch} {D : va_G} {dA : Nat → ClassId} {lo n : Nat} {σ : zS} {a z : Int32} (I : xI σ) : xM l y_SM_liesIn b_SM_liesIn 5 (some .boolean) 2 D dA lo n [.ref (xa0 lo 0), .int a, .int z] σ (some (.int (xf_liesIn σ a z))) σ := by
  refine zM_of (lv0 := [(0, .ref (xa0 lo 0)), (1, .int a), (2, .int z)]) (by decide) rfl rfl rfl ?_
  intro p e s m below meth c C hr hnm hsz
  have C : zC p s m ([.ref (xa0 lo 0), .int a, .int z] : List Value).toArray meth c b_SM_liesIn 5 R_SM D dA := C
  have loop : ∀ (k i : Nat) (q iv : Int32), iv = nI i → i + k = 10 → xf_li σ z k q = xf_liesIn σ a z → xZ p l e 2 s m ([.ref (xa0 lo 0), .int a, .int z] : List Value).toArray below meth c D dA lo 5 n (some (.int (xf_liesIn σ a z))) (σ) (σ) 5 [(0, .ref (xa0 lo 0)), (1, .int a), (2, .int z), (3, .int q), (4, .int iv)] [] := by
    intro k
    induction k with
    | zero =>
      intro i q iv hiv hik hres
      refine zz_iload C d_SM_liesIn_5 rfl ?_
      refine zz_bipush (x := 10) C d_SM_liesIn_7 rfl ?_
      refine zz_icmp_ge (tgt := 43) C d_SM_liesIn_9 (by decide) (fun h9 => ?_) (fun h9 => ?_)
      · refine zz_iconst (x := 0) C d_SM_liesIn_43 rfl ?_
        exact xr_i C hr rfl d_SM_liesIn_44 (by rw [← hres]; rfl) rfl
      · exact absurd (z_ge (N := 10) hiv rfl (by omega) (by omega)) h9
    | succ k ih =>
      intro i q iv hiv hik hres
      unfold xf_li at hres
      refine zz_iload C d_SM_liesIn_5 rfl ?_
      refine zz_bipush (x := 10) C d_SM_liesIn_7 rfl ?_
      refine zz_icmp_ge (tgt := 43) C d_SM_liesIn_9 (by decide) (fun h9 => ?_) (fun h9 => ?_)
      · exact absurd h9 (z_nge hiv rfl (show i < 10 by omega) (by decide))
      · refine zz_aload_n C d_SM_liesIn_12 rfl ?_
        refine zz_iload_n C d_SM_liesIn_13 rfl ?_
        refine xc_Vi C (xw_0 Nat.zero_lt_one) rfl s_SM_63 c_SM_isScope rfl rfl d_SM_liesIn_14 k_SM_isScope ⟨by decide, by decide⟩ rfl ?_
        refine zz_if_eq (tgt := 43) C d_SM_liesIn_17 (by decide) (fun h17 => ?_) (fun h17 => ?_)
        · refine zz_iconst (x := 0) C d_SM_liesIn_43 rfl ?_
          exact xr_i C hr rfl d_SM_liesIn_44 (by rw [← hres, if_pos h17]) rfl
        · refine zz_iload_n C d_SM_liesIn_20 rfl ?_
          refine zz_iload_n C d_SM_liesIn_21 rfl ?_
          refine zz_icmp_ne (tgt := 27) C d_SM_liesIn_22 (by decide) (fun h22 => ?_) (fun h22 => ?_)
          · refine zz_aload_n C d_SM_liesIn_27 rfl ?_
            refine zz_get C (ci := 3) (N := 8) 0 rfl zi_SM (by decide) fl_SM_11 (xw_0 Nat.zero_lt_one) rfl d_SM_liesIn_28 ?_
            refine zz_iload_n C d_SM_liesIn_31 rfl ?_
            refine zz_aald C (t0 := 2) rfl (xw_1 Nat.zero_lt_one) (x_scope_in I h17) (fun h9 => if_pos h9) d_SM_liesIn_32 (fun b32 => ?_)
            refine zz_getN C (ci := 0) (N := 5) 3 rfl zi_Ar (by decide) fn_SM_76 (xw_6 b32) rfl d_SM_liesIn_33 ?_
            refine zz_istore_n C d_SM_liesIn_36 (by decide) ?_
            refine zz_iinc (d' := 1) C d_SM_liesIn_37 rfl rfl (by decide) ?_
            refine zz_goto (tgt := 5) C d_SM_liesIn_40 (by decide) ?_
            refine zz_lv [0, 1, 2, 3, 4] rfl ?_
            exact ih (i + 1) _ _ (z_sI hiv) (by omega) (by rw [← hres, if_neg h17, if_neg h22])
          · refine zz_iconst (x := 1) C d_SM_liesIn_25 rfl ?_
            exact xr_i C hr rfl d_SM_liesIn_26 (by rw [← hres, if_neg h17, if_pos h22]) rfl
  refine zz_iload_n C d_SM_liesIn_0 rfl ?_
  refine zz_istore_n C d_SM_liesIn_1 (by decide) ?_
  refine zz_iconst (x := 0) C d_SM_liesIn_2 rfl ?_
  refine zz_istore C d_SM_liesIn_3 (by decide) ?_
  refine zz_lv [0, 1, 2, 3, 4] rfl ?_
  exact loop 10 0 _ _ nI_0.symm rfl rfl
set_option maxHeartbeats 400000 in
set_option maxRecDepth 100000 in
theorem c_SM_mayPointTo {l : Launch} {D : va_G} {dA : Nat → ClassId} {lo n : Nat} {σ : zS} {a o : Int32} (I : xI σ) (ho : vp_in o 40) : xM l y_SM_mayPointTo b_SM_mayPointTo 4 (some .boolean) 3 D dA lo n [.ref (xa0 lo 0), .int a, .int o] σ (some (.int (xf_mayPointTo σ a o))) σ := by
  refine zM_of (lv0 := [(0, .ref (xa0 lo 0)), (1, .int a), (2, .int o)]) (by decide) rfl rfl rfl ?_
  intro p e s m below meth c C hr hnm hsz
  have C : zC p s m ([.ref (xa0 lo 0), .int a, .int o] : List Value).toArray meth c b_SM_mayPointTo 4 R_SM D dA := C
  refine zz_aload_n C d_SM_mayPointTo_0 rfl ?_
  refine zz_get C (ci := 3) (N := 8) 1 rfl zi_SM (by decide) fl_SM_17 (xw_0 Nat.zero_lt_one) rfl d_SM_mayPointTo_1 ?_
  refine zz_iload_n C d_SM_mayPointTo_4 rfl ?_
  refine zz_aald C (t0 := 3) rfl (xw_2 Nat.zero_lt_one) ho (fun h9 => if_pos h9) d_SM_mayPointTo_5 (fun b5 => ?_)
  refine zz_getN C (ci := 1) (N := 4) 1 rfl zi_Ce (by decide) fn_SM_137 (xw_7 b5) rfl d_SM_mayPointTo_6 ?_
  refine zz_istore_n C d_SM_mayPointTo_9 (by decide) ?_
  refine zz_iload_n C d_SM_mayPointTo_10 rfl ?_
  refine zz_if_eq (tgt := 28) C d_SM_mayPointTo_11 (by decide) (fun h11 => ?_) (fun h11 => ?_)
  · refine zz_iconst (x := 1) C d_SM_mayPointTo_28 rfl ?_
    refine zz_goto (tgt := 33) C d_SM_mayPointTo_29 (by decide) ?_
    exact xr_i C hr rfl d_SM_mayPointTo_33 (by simp only [xf_mayPointTo, if_pos h11] <;> simp [xf_mayPointTo, z_at]) rfl
  · refine zz_iload_n C d_SM_mayPointTo_14 rfl ?_
    refine zz_iconst (x := 1) C d_SM_mayPointTo_15 rfl ?_
    refine zz_icmp_eq (tgt := 28) C d_SM_mayPointTo_16 (by decide) (fun h16 => ?_) (fun h16 => ?_)
    · refine zz_iconst (x := 1) C d_SM_mayPointTo_28 rfl ?_
      refine zz_goto (tgt := 33) C d_SM_mayPointTo_29 (by decide) ?_
      exact xr_i C hr rfl d_SM_mayPointTo_33 (by simp only [xf_mayPointTo, if_neg h11, if_pos h16] <;> simp [xf_mayPointTo, z_at]) rfl
    · refine zz_aload_n C d_SM_mayPointTo_19 rfl ?_
      refine zz_iload_n C d_SM_mayPointTo_20 rfl ?_
      refine zz_iload_n C d_SM_mayPointTo_21 rfl ?_
      refine xc_Vi C (xw_0 Nat.zero_lt_one) rfl s_SM_185 (c_SM_liesIn I) rfl rfl d_SM_mayPointTo_22 k_SM_liesIn ⟨by decide, by decide⟩ rfl ?_
      refine zz_if_eq (tgt := 32) C d_SM_mayPointTo_25 (by decide) (fun h25 => ?_) (fun h25 => ?_)
      · refine zz_iconst (x := 0) C d_SM_mayPointTo_32 rfl ?_
        exact xr_i C hr rfl d_SM_mayPointTo_33 (by simp only [xf_mayPointTo, if_neg h11, if_neg h16, if_pos h25] <;> simp [xf_mayPointTo, z_at]) rfl
      · refine zz_iconst (x := 1) C d_SM_mayPointTo_28 rfl ?_
        refine zz_goto (tgt := 33) C d_SM_mayPointTo_29 (by decide) ?_
        exact xr_i C hr rfl d_SM_mayPointTo_33 (by simp only [xf_mayPointTo, if_neg h11, if_neg h16, if_neg h25] <;> simp [xf_mayPointTo, z_at]) rfl
set_option maxHeartbeats 400000 in
set_option maxRecDepth 100000 in
theorem c_SM_begunThreads {l : Launch} {D : va_G} {dA : Nat → ClassId} {lo n : Nat} {σ : zS}  : xM l y_SM_begunThreads b_SM_begunThreads 3 (some .int) 2 D dA lo n [.ref (xa0 lo 0)] σ (some (.int (xf_begunThreads σ))) σ := by
  refine zM_of (lv0 := [(0, .ref (xa0 lo 0))]) (by decide) rfl rfl rfl ?_
  intro p e s m below meth c C hr hnm hsz
  have C : zC p s m ([.ref (xa0 lo 0)] : List Value).toArray meth c b_SM_begunThreads 3 R_SM D dA := C
  have loop : ∀ (k i : Nat) (b iv : Int32), iv = nI i → i + k = 4 → xf_bt σ k i b = xf_begunThreads σ → xZ p l e 2 s m ([.ref (xa0 lo 0)] : List Value).toArray below meth c D dA lo 3 n (some (.int (xf_begunThreads σ))) (σ) (σ) 4 [(0, .ref (xa0 lo 0)), (1, .int b), (2, .int iv)] [] := by
    intro k
    induction k with
    | zero =>
      intro i b iv hiv hik hres
      refine zz_iload_n C d_SM_begunThreads_4 rfl ?_
      refine zz_iconst (x := 4) C d_SM_begunThreads_5 rfl ?_
      refine zz_icmp_ge (tgt := 26) C d_SM_begunThreads_6 (by decide) (fun h6 => ?_) (fun h6 => ?_)
      · refine zz_iload_n C d_SM_begunThreads_26 rfl ?_
        exact xr_i C hr rfl d_SM_begunThreads_27 hres rfl
      · exact absurd (z_ge (N := 4) hiv rfl (by omega) (by omega)) h6
    | succ k ih =>
      intro i b iv hiv hik hres
      unfold xf_bt at hres
      refine zz_iload_n C d_SM_begunThreads_4 rfl ?_
      refine zz_iconst (x := 4) C d_SM_begunThreads_5 rfl ?_
      refine zz_icmp_ge (tgt := 26) C d_SM_begunThreads_6 (by decide) (fun h6 => ?_) (fun h6 => ?_)
      · exact absurd h6 (z_nge hiv rfl (show i < 4 by omega) (by decide))
      · refine zz_aload_n C d_SM_begunThreads_9 rfl ?_
        refine zz_iload_n C d_SM_begunThreads_10 rfl ?_
        refine xc_Vi C (xw_0 Nat.zero_lt_one) rfl s_SM_52 c_SM_isBegun rfl rfl d_SM_begunThreads_11 k_SM_isBegun ⟨by decide, by decide⟩ rfl ?_
        refine zz_if_eq (tgt := 20) C d_SM_begunThreads_14 (by decide) (fun h14 => ?_) (fun h14 => ?_)
        · refine zz_iinc (d' := 1) C d_SM_begunThreads_20 rfl rfl (by decide) ?_
          refine zz_goto (tgt := 4) C d_SM_begunThreads_23 (by decide) ?_
          refine zz_lv [0, 1, 2] rfl ?_
          rw [hiv] at h14
          exact ih (i + 1) _ _ (z_sI hiv) (by omega) (by rw [← hres, if_pos h14])
        · refine zz_iinc (d' := 1) C d_SM_begunThreads_17 rfl rfl (by decide) ?_
          refine zz_iinc (d' := 1) C d_SM_begunThreads_20 rfl rfl (by decide) ?_
          refine zz_goto (tgt := 4) C d_SM_begunThreads_23 (by decide) ?_
          refine zz_lv [0, 1, 2] rfl ?_
          rw [hiv] at h14
          exact ih (i + 1) _ _ (z_sI hiv) (by omega) (by rw [← hres, if_neg h14])
  refine zz_iconst (x := 0) C d_SM_begunThreads_0 rfl ?_
  refine zz_istore_n C d_SM_begunThreads_1 (by decide) ?_
  refine zz_iconst (x := 0) C d_SM_begunThreads_2 rfl ?_
  refine zz_istore_n C d_SM_begunThreads_3 (by decide) ?_
  refine zz_lv [0, 1, 2] rfl ?_
  exact loop 4 0 _ _ nI_0.symm rfl rfl
set_option maxHeartbeats 400000 in
set_option maxRecDepth 100000 in
theorem c_SM_leastFreeNumber {l : Launch} {D : va_G} {dA : Nat → ClassId} {lo n : Nat} {σ : zS}  : xM l y_SM_leastFreeNumber b_SM_leastFreeNumber 2 (some .int) 0 D dA lo n [.ref (xa0 lo 0)] σ (some (.int (xf_leastFreeNumber σ))) σ := by
  refine zM_of (lv0 := [(0, .ref (xa0 lo 0))]) (by decide) rfl rfl rfl ?_
  intro p e s m below meth c C hr hnm hsz
  have C : zC p s m ([.ref (xa0 lo 0)] : List Value).toArray meth c b_SM_leastFreeNumber 2 R_SM D dA := C
  have loop : ∀ (k i : Nat) (iv : Int32), iv = nI i → i + k = 40 → xf_lf σ k i = xf_leastFreeNumber σ → xZ p l e 0 s m ([.ref (xa0 lo 0)] : List Value).toArray below meth c D dA lo 2 n (some (.int (xf_leastFreeNumber σ))) (σ) (σ) 2 [(0, .ref (xa0 lo 0)), (1, .int iv)] [] := by
    intro k
    induction k with
    | zero =>
      intro i iv hiv hik hres
      refine zz_iload_n C d_SM_leastFreeNumber_2 rfl ?_
      refine zz_bipush (x := 40) C d_SM_leastFreeNumber_3 rfl ?_
      refine zz_icmp_ge (tgt := 29) C d_SM_leastFreeNumber_5 (by decide) (fun h5 => ?_) (fun h5 => ?_)
      · refine zz_iconst (x := -1) C d_SM_leastFreeNumber_29 rfl ?_
        exact xr_i C hr rfl d_SM_leastFreeNumber_30 (by rw [← hres]; rfl) rfl
      · exact absurd (z_ge (N := 40) hiv rfl (by omega) (by omega)) h5
    | succ k ih =>
      intro i iv hiv hik hres
      unfold xf_lf at hres
      have hix : iv.toNatClampNeg = i := z_ixI hiv (by omega)
      refine zz_iload_n C d_SM_leastFreeNumber_2 rfl ?_
      refine zz_bipush (x := 40) C d_SM_leastFreeNumber_3 rfl ?_
      refine zz_icmp_ge (tgt := 29) C d_SM_leastFreeNumber_5 (by decide) (fun h5 => ?_) (fun h5 => ?_)
      · exact absurd h5 (z_nge hiv rfl (show i < 40 by omega) (by decide))
      · refine zz_aload_n C d_SM_leastFreeNumber_8 rfl ?_
        refine zz_get C (ci := 3) (N := 8) 1 rfl zi_SM (by decide) fl_SM_17 (xw_0 Nat.zero_lt_one) rfl d_SM_leastFreeNumber_9 ?_
        refine zz_iload_n C d_SM_leastFreeNumber_12 rfl ?_
        refine zz_aald C (t0 := 3) rfl (xw_2 Nat.zero_lt_one) (z_vinI hiv (by omega) (by decide)) (fun h9 => if_pos h9) d_SM_leastFreeNumber_13 (fun b13 => ?_)
        refine zz_getN C (ci := 1) (N := 4) 1 rfl zi_Ce (by decide) fn_SM_137 (xw_7 b13) rfl d_SM_leastFreeNumber_14 ?_
        refine zz_iconst (x := -1) C d_SM_leastFreeNumber_17 rfl ?_
        refine zz_icmp_ne (tgt := 23) C d_SM_leastFreeNumber_18 (by decide) (fun h18 => ?_) (fun h18 => ?_)
        · refine zz_iinc (d' := 1) C d_SM_leastFreeNumber_23 rfl rfl (by decide) ?_
          refine zz_goto (tgt := 2) C d_SM_leastFreeNumber_26 (by decide) ?_
          refine zz_lv [0, 1] rfl ?_
          rw [hix] at h18
          exact ih (i + 1) _ (z_sI hiv) (by omega) (by rw [← hres, if_neg h18])
        · refine zz_iload_n C d_SM_leastFreeNumber_21 rfl ?_
          rw [hix] at h18
          exact xr_i C hr rfl d_SM_leastFreeNumber_22 (by rw [← hres, if_pos h18, hiv]) rfl
  refine zz_iconst (x := 0) C d_SM_leastFreeNumber_0 rfl ?_
  refine zz_istore_n C d_SM_leastFreeNumber_1 (by decide) ?_
  refine zz_lv [0, 1] rfl ?_
  exact loop 40 0 _ nI_0.symm rfl rfl
set_option maxHeartbeats 400000 in
set_option maxRecDepth 100000 in
theorem c_SM_drop {l : Launch} {D : va_G} {dA : Nat → ClassId} {lo n : Nat} {σ : zS} {o : Int32} (ho : vp_in o 40) (ha : vp_in (σ 6 (z_ix o) 0) 10) : xM l y_SM_drop b_SM_drop 3 none 0 D dA lo n [.ref (xa0 lo 0), .int o] σ none (xf_drop σ o) := by
  refine zM_of (lv0 := [(0, .ref (xa0 lo 0)), (1, .int o)]) (by decide) rfl rfl rfl ?_
  intro p e s m below meth c C hr hnm hsz
  have C : zC p s m ([.ref (xa0 lo 0), .int o] : List Value).toArray meth c b_SM_drop 3 R_SM D dA := C
  refine zz_aload_n C d_SM_drop_0 rfl ?_
  refine zz_get C (ci := 3) (N := 8) 1 rfl zi_SM (by decide) fl_SM_17 (xw_0 Nat.zero_lt_one) rfl d_SM_drop_1 ?_
  refine zz_iload_n C d_SM_drop_4 rfl ?_
  refine zz_aald C (t0 := 3) rfl (xw_2 Nat.zero_lt_one) ho (fun h9 => if_pos h9) d_SM_drop_5 (fun b5 => ?_)
  refine zz_astore_n C d_SM_drop_6 (by decide) ?_
  refine zz_aload_n C d_SM_drop_7 rfl ?_
  refine zz_get C (ci := 3) (N := 8) 0 rfl zi_SM (by decide) fl_SM_11 (xw_0 Nat.zero_lt_one) rfl d_SM_drop_8 ?_
  refine zz_aload_n C d_SM_drop_11 rfl ?_
  refine zz_getN C (ci := 1) (N := 4) 1 rfl zi_Ce (by decide) fn_SM_137 (xw_7 b5) rfl d_SM_drop_12 ?_
  refine zz_aald C (t0 := 2) rfl (xw_1 Nat.zero_lt_one) ha (fun h9 => if_pos h9) d_SM_drop_15 (fun b15 => ?_)
  refine zz_dup C d_SM_drop_16 rfl ?_
  refine zz_getN C (ci := 0) (N := 5) 1 rfl zi_Ar (by decide) fn_SM_118 (xw_6 b15) rfl d_SM_drop_17 ?_
  refine zz_iconst (x := 1) C d_SM_drop_20 rfl ?_
  refine zz_aload_n C d_SM_drop_21 rfl ?_
  refine zz_getN C (ci := 1) (N := 4) 2 rfl zi_Ce (by decide) fn_SM_182 (xw_7 b5) rfl d_SM_drop_22 ?_
  refine zz_iadd C d_SM_drop_25 ?_
  refine zz_isub C d_SM_drop_26 ?_
  refine xpN_1 C fn_SM_118 b15 rfl rfl d_SM_drop_27 ?_
  refine zz_aload_n C d_SM_drop_30 rfl ?_
  refine zz_iconst (x := -1) C d_SM_drop_31 rfl ?_
  refine xpN_6 C fn_SM_137 b5 rfl rfl d_SM_drop_32 ?_
  refine zz_aload_n C d_SM_drop_35 rfl ?_
  refine zz_dup C d_SM_drop_36 rfl ?_
  refine zz_get C (ci := 3) (N := 8) 7 rfl zi_SM (by decide) fl_SM_121 (xw_0 Nat.zero_lt_one) rfl d_SM_drop_37 ?_
  refine zz_iconst (x := 1) C d_SM_drop_40 rfl ?_
  refine zz_isub C d_SM_drop_41 ?_
  refine xp_18 C fl_SM_121 Nat.zero_lt_one rfl rfl d_SM_drop_42 ?_
  exact xr_v C hr d_SM_drop_45 (by first | rfl | simp [xf_drop, z_at])
set_option maxHeartbeats 400000 in
set_option maxRecDepth 100000 in
theorem c_SM_emptyScope {l : Launch} {D : va_G} {dA : Nat → ClassId} {lo n : Nat} {σ : zS} {z : Int32} (hz : vp_in z 10) : xM l y_SM_emptyScope b_SM_emptyScope 3 none 1 D dA lo n [.ref (xa0 lo 0), .int z] σ none (xf_emptyScope σ z) := by
  refine zM_of (lv0 := [(0, .ref (xa0 lo 0)), (1, .int z)]) (by decide) rfl rfl rfl ?_
  intro p e s m below meth c C hr hnm hsz
  have C : zC p s m ([.ref (xa0 lo 0), .int z] : List Value).toArray meth c b_SM_emptyScope 3 R_SM D dA := C
  generalize hT : xf_es z 40 0 σ = T
  have loop : ∀ (k i : Nat) (iv : Int32) (σ1 : zS), iv = nI i → i + k = 40 → xf_es z k i σ1 = T → xZ p l e 1 s m ([.ref (xa0 lo 0), .int z] : List Value).toArray below meth c D dA lo 3 n none (xf_emptyScope σ z) (σ1) 2 [(0, .ref (xa0 lo 0)), (1, .int z), (2, .int iv)] [] := by
    intro k
    induction k with
    | zero =>
      intro i iv σ1 hiv hik hres
      have hres : σ1 = T := hres
      refine zz_iload_n C d_SM_emptyScope_2 rfl ?_
      refine zz_bipush (x := 40) C d_SM_emptyScope_3 rfl ?_
      refine zz_icmp_ge (tgt := 32) C d_SM_emptyScope_5 (by decide) (fun h5 => ?_) (fun h5 => ?_)
      · refine zz_aload_n C d_SM_emptyScope_32 rfl ?_
        refine zz_get C (ci := 3) (N := 8) 0 rfl zi_SM (by decide) fl_SM_11 (xw_0 Nat.zero_lt_one) rfl d_SM_emptyScope_33 ?_
        refine zz_iload_n C d_SM_emptyScope_36 rfl ?_
        refine zz_aald C (t0 := 2) rfl (xw_1 Nat.zero_lt_one) hz (fun h9 => if_pos h9) d_SM_emptyScope_37 (fun b37 => ?_)
        refine zz_iconst (x := 0) C d_SM_emptyScope_38 rfl ?_
        refine xpN_3 C fn_SM_76 b37 rfl rfl d_SM_emptyScope_39 ?_
        refine zz_aload_n C d_SM_emptyScope_42 rfl ?_
        refine zz_get C (ci := 3) (N := 8) 0 rfl zi_SM (by decide) fl_SM_11 (xw_0 Nat.zero_lt_one) rfl d_SM_emptyScope_43 ?_
        refine zz_iload_n C d_SM_emptyScope_46 rfl ?_
        refine zz_aald C (t0 := 2) rfl (xw_1 Nat.zero_lt_one) hz (fun h9 => if_pos h9) d_SM_emptyScope_47 (fun b47 => ?_)
        refine zz_iconst (x := -1) C d_SM_emptyScope_48 rfl ?_
        refine xpN_4 C fn_SM_146 b47 rfl rfl d_SM_emptyScope_49 ?_
        exact xr_v C hr d_SM_emptyScope_52 (by rw [hres, ← hT]; rfl)
      · exact absurd (z_ge (N := 40) hiv rfl (by omega) (by omega)) h5
    | succ k ih =>
      intro i iv σ1 hiv hik hres
      unfold xf_es at hres
      have hix : iv.toNatClampNeg = i := z_ixI hiv (by omega)
      refine zz_iload_n C d_SM_emptyScope_2 rfl ?_
      refine zz_bipush (x := 40) C d_SM_emptyScope_3 rfl ?_
      refine zz_icmp_ge (tgt := 32) C d_SM_emptyScope_5 (by decide) (fun h5 => ?_) (fun h5 => ?_)
      · exact absurd h5 (z_nge hiv rfl (show i < 40 by omega) (by decide))
      · refine zz_aload_n C d_SM_emptyScope_8 rfl ?_
        refine zz_get C (ci := 3) (N := 8) 1 rfl zi_SM (by decide) fl_SM_17 (xw_0 Nat.zero_lt_one) rfl d_SM_emptyScope_9 ?_
        refine zz_iload_n C d_SM_emptyScope_12 rfl ?_
        refine zz_aald C (t0 := 3) rfl (xw_2 Nat.zero_lt_one) (z_vinI hiv (by omega) (by decide)) (fun h9 => if_pos h9) d_SM_emptyScope_13 (fun b13 => ?_)
        refine zz_getN C (ci := 1) (N := 4) 1 rfl zi_Ce (by decide) fn_SM_137 (xw_7 b13) rfl d_SM_emptyScope_14 ?_
        refine zz_iload_n C d_SM_emptyScope_17 rfl ?_
        refine zz_icmp_ne (tgt := 26) C d_SM_emptyScope_18 (by decide) (fun h18 => ?_) (fun h18 => ?_)
        · refine zz_iinc (d' := 1) C d_SM_emptyScope_26 rfl rfl (by decide) ?_
          refine zz_goto (tgt := 2) C d_SM_emptyScope_29 (by decide) ?_
          refine zz_lv [0, 1, 2] rfl ?_
          rw [hix] at h18
          exact ih (i + 1) _ _ (z_sI hiv) (by omega) (by rw [← hres, if_neg h18])
        · refine zz_aload_n C d_SM_emptyScope_21 rfl ?_
          refine zz_iload_n C d_SM_emptyScope_22 rfl ?_
          refine xc_Vv C (xw_0 Nat.zero_lt_one) rfl s_SM_158 (c_SM_drop (z_vinI hiv (by omega) (by decide)) (by rw [h18]; exact hz)) rfl rfl d_SM_emptyScope_23 k_SM_drop ⟨by decide, by decide⟩ rfl ?_
          refine zz_iinc (d' := 1) C d_SM_emptyScope_26 rfl rfl (by decide) ?_
          refine zz_goto (tgt := 2) C d_SM_emptyScope_29 (by decide) ?_
          refine zz_lv [0, 1, 2] rfl ?_
          rw [hix] at h18
          exact ih (i + 1) _ _ (z_sI hiv) (by omega) (by rw [← hres, if_pos h18, hiv])
  refine zz_iconst (x := 0) C d_SM_emptyScope_0 rfl ?_
  refine zz_istore_n C d_SM_emptyScope_1 (by decide) ?_
  refine zz_lv [0, 1, 2] rfl ?_
  exact loop 40 0 _ _ nI_0.symm rfl hT
set_option maxHeartbeats 400000 in
set_option maxRecDepth 100000 in
theorem c_SM_dropEntry {l : Launch} {D : va_G} {dA : Nat → ClassId} {lo n : Nat} {σ : zS} {z : Int32} (hz : vp_in z 10) : xM l y_SM_dropEntry b_SM_dropEntry 2 none 2 D dA lo n [.ref (xa0 lo 0), .int z] σ none (xf_dropEntry σ z) := by
  refine zM_of (lv0 := [(0, .ref (xa0 lo 0)), (1, .int z)]) (by decide) rfl rfl rfl ?_
  intro p e s m below meth c C hr hnm hsz
  have C : zC p s m ([.ref (xa0 lo 0), .int z] : List Value).toArray meth c b_SM_dropEntry 2 R_SM D dA := C
  refine zz_aload_n C d_SM_dropEntry_0 rfl ?_
  refine zz_get C (ci := 3) (N := 8) 0 rfl zi_SM (by decide) fl_SM_11 (xw_0 Nat.zero_lt_one) rfl d_SM_dropEntry_1 ?_
  refine zz_iload_n C d_SM_dropEntry_4 rfl ?_
  refine zz_aald C (t0 := 2) rfl (xw_1 Nat.zero_lt_one) hz (fun h9 => if_pos h9) d_SM_dropEntry_5 (fun b5 => ?_)
  refine zz_dup C d_SM_dropEntry_6 rfl ?_
  refine zz_getN C (ci := 0) (N := 5) 2 rfl zi_Ar (by decide) fn_SM_73 (xw_6 b5) rfl d_SM_dropEntry_7 ?_
  refine zz_iconst (x := 1) C d_SM_dropEntry_10 rfl ?_
  refine zz_isub C d_SM_dropEntry_11 ?_
  refine xpN_2 C fn_SM_73 b5 rfl rfl d_SM_dropEntry_12 ?_
  refine zz_aload_n C d_SM_dropEntry_15 rfl ?_
  refine zz_get C (ci := 3) (N := 8) 0 rfl zi_SM (by decide) fl_SM_11 (xw_0 Nat.zero_lt_one) rfl d_SM_dropEntry_16 ?_
  refine zz_iload_n C d_SM_dropEntry_19 rfl ?_
  refine zz_aald C (t0 := 2) rfl (xw_1 Nat.zero_lt_one) hz (fun h9 => if_pos h9) d_SM_dropEntry_20 (fun b20 => ?_)
  refine zz_getN C (ci := 0) (N := 5) 2 rfl zi_Ar (by decide) fn_SM_73 (xw_6 b20) rfl d_SM_dropEntry_21 ?_
  refine zz_if_ne (tgt := 32) C d_SM_dropEntry_24 (by decide) (fun h24 => ?_) (fun h24 => ?_)
  · rw [z_at, if_pos ⟨rfl, rfl, rfl⟩] at h24
    exact xr_v C hr d_SM_dropEntry_32 (by unfold xf_dropEntry; rw [if_neg h24])
  · refine zz_aload_n C d_SM_dropEntry_27 rfl ?_
    refine zz_iload_n C d_SM_dropEntry_28 rfl ?_
    refine xc_Vv C (xw_0 Nat.zero_lt_one) rfl s_SM_188 (c_SM_emptyScope hz) rfl rfl d_SM_dropEntry_29 k_SM_emptyScope ⟨by decide, by decide⟩ rfl ?_
    rw [z_at, if_pos ⟨rfl, rfl, rfl⟩] at h24
    exact xr_v C hr d_SM_dropEntry_32 (by unfold xf_dropEntry; rw [if_pos h24])
set_option maxHeartbeats 400000 in
set_option maxRecDepth 100000 in
theorem c_SM_keep {l : Launch} {D : va_G} {dA : Nat → ClassId} {lo n : Nat} {σ : zS} {o : Int32} (ho : z_o 40 o) (F : xF σ) : xM l y_SM_keep b_SM_keep 2 none 1 D dA lo n [.ref (xa0 lo 0), .int o] σ none (xf_keep σ o) := by
  refine zM_of (lv0 := [(0, .ref (xa0 lo 0)), (1, .int o)]) (by decide) rfl rfl rfl ?_
  intro p e s m below meth c C hr hnm hsz
  have C : zC p s m ([.ref (xa0 lo 0), .int o] : List Value).toArray meth c b_SM_keep 2 R_SM D dA := C
  refine zz_aload_n C d_SM_keep_0 rfl ?_
  refine zz_iload_n C d_SM_keep_1 rfl ?_
  refine xc_Vi C (xw_0 Nat.zero_lt_one) rfl s_SM_161 c_SM_isObject rfl rfl d_SM_keep_2 k_SM_isObject ⟨by decide, by decide⟩ rfl ?_
  refine zz_if_eq (tgt := 32) C d_SM_keep_5 (by decide) (fun h5 => ?_) (fun h5 => ?_)
  · exact xr_v C hr d_SM_keep_32 (by rw [x_keep_eq ho]; simp [z_at, h5])
  · refine zz_aload_n C d_SM_keep_8 rfl ?_
    refine zz_get C (ci := 3) (N := 8) 1 rfl zi_SM (by decide) fl_SM_17 (xw_0 Nat.zero_lt_one) rfl d_SM_keep_9 ?_
    refine zz_iload_n C d_SM_keep_12 rfl ?_
    refine zz_aald C (t0 := 3) rfl (xw_2 Nat.zero_lt_one) (x_obj h5) (fun h9 => if_pos h9) d_SM_keep_13 (fun b13 => ?_)
    refine zz_getN C (ci := 1) (N := 4) 1 rfl zi_Ce (by decide) fn_SM_137 (xw_7 b13) rfl d_SM_keep_14 ?_
    refine zz_if_ne (tgt := 32) C d_SM_keep_17 (by decide) (fun h17 => ?_) (fun h17 => ?_)
    · exact xr_v C hr d_SM_keep_32 (by rw [x_keep_eq ho]; simp [z_at, h5, h17])
    · refine zz_aload_n C d_SM_keep_20 rfl ?_
      refine zz_get C (ci := 3) (N := 8) 1 rfl zi_SM (by decide) fl_SM_17 (xw_0 Nat.zero_lt_one) rfl d_SM_keep_21 ?_
      refine zz_iload_n C d_SM_keep_24 rfl ?_
      refine zz_aald C (t0 := 3) rfl (xw_2 Nat.zero_lt_one) (x_obj h5) (fun h9 => if_pos h9) d_SM_keep_25 (fun b25 => ?_)
      refine zz_getN C (ci := 1) (N := 4) 3 rfl zi_Ce (by decide) fn_SM_155 (xw_7 b25) rfl d_SM_keep_26 ?_
      refine zz_if_eq (tgt := 33) C d_SM_keep_29 (by decide) (fun h29 => ?_) (fun h29 => ?_)
      · refine zz_aload_n C d_SM_keep_33 rfl ?_
        refine zz_get C (ci := 3) (N := 8) 5 rfl zi_SM (by decide) fl_SM_170 (xw_0 Nat.zero_lt_one) rfl d_SM_keep_34 ?_
        refine zz_bipush (x := 40) C d_SM_keep_37 rfl ?_
        refine zz_icmp_lt (tgt := 43) C d_SM_keep_39 (by decide) (fun h39 => ?_) (fun h39 => ?_)
        · refine zz_aload_n C d_SM_keep_43 rfl ?_
          refine zz_get C (ci := 3) (N := 8) 1 rfl zi_SM (by decide) fl_SM_17 (xw_0 Nat.zero_lt_one) rfl d_SM_keep_44 ?_
          refine zz_iload_n C d_SM_keep_47 rfl ?_
          refine zz_aald C (t0 := 3) rfl (xw_2 Nat.zero_lt_one) (x_obj h5) (fun h9 => if_pos h9) d_SM_keep_48 (fun b48 => ?_)
          refine zz_iconst (x := 1) C d_SM_keep_49 rfl ?_
          refine xpN_8 C fn_SM_155 b48 rfl rfl d_SM_keep_50 ?_
          refine zz_aload_n C d_SM_keep_53 rfl ?_
          refine zz_get C (ci := 3) (N := 8) 4 rfl zi_SM (by decide) fl_SM_31 (xw_0 Nat.zero_lt_one) rfl d_SM_keep_54 ?_
          refine zz_aload_n C d_SM_keep_57 rfl ?_
          refine zz_get C (ci := 3) (N := 8) 5 rfl zi_SM (by decide) fl_SM_170 (xw_0 Nat.zero_lt_one) rfl d_SM_keep_58 ?_
          refine zz_iload_n C d_SM_keep_61 rfl ?_
          refine xs_15 C Nat.zero_lt_one (x_keep_in (σ := σ) F (x_obj h5) h29) d_SM_keep_62 ?_
          refine zz_aload_n C d_SM_keep_63 rfl ?_
          refine zz_dup C d_SM_keep_64 rfl ?_
          refine zz_get C (ci := 3) (N := 8) 5 rfl zi_SM (by decide) fl_SM_170 (xw_0 Nat.zero_lt_one) rfl d_SM_keep_65 ?_
          refine zz_iconst (x := 1) C d_SM_keep_68 rfl ?_
          refine zz_iadd C d_SM_keep_69 ?_
          refine xp_16 C fl_SM_170 Nat.zero_lt_one rfl rfl d_SM_keep_70 ?_
          exact xr_v C hr d_SM_keep_73 (by rw [x_keep_eq ho]; simp [z_at, h5, h17, h29, h39])
        · exact absurd (x_keep_lt (σ := σ) F (x_obj h5) h29) h39
      · exact xr_v C hr d_SM_keep_32 (by rw [x_keep_eq ho]; simp [z_at, h5, h17, h29])
set_option maxHeartbeats 400000 in
set_option maxRecDepth 100000 in
theorem c_SM_keepFieldsOf {l : Launch} {D : va_G} {dA : Nat → ClassId} {lo n : Nat} {σ : zS} {o : Int32} (I : xI σ) (F : xF σ) (ho : vp_in o 40) : xM l y_SM_keepFieldsOf b_SM_keepFieldsOf 4 none 2 D dA lo n [.ref (xa0 lo 0), .int o] σ none (xf_keepFieldsOf σ o) := by
  refine zM_of (lv0 := [(0, .ref (xa0 lo 0)), (1, .int o)]) (by decide) rfl rfl rfl ?_
  intro p e s m below meth c C hr hnm hsz
  have C : zC p s m ([.ref (xa0 lo 0), .int o] : List Value).toArray meth c b_SM_keepFieldsOf 4 R_SM D dA := C
  have hl : o.toNatClampNeg < 40 := z_vlt ho
  have loop : ∀ (k i : Nat) (iv : Int32) (σ1 : zS), iv = nI i → i + k = 4 → xI σ1 → xF σ1 → xf_kl (z_ix o) k i σ1 = xf_keepFieldsOf σ o → xZ p l e 2 s m ([.ref (xa0 lo 0), .int o] : List Value).toArray below meth c D dA lo 4 n none (xf_keepFieldsOf σ o) (σ1) 9 [(0, .ref (xa0 lo 0)), (2, .ref (xa7 lo o.toNatClampNeg)), (3, .int iv)] [] := by
    intro k
    induction k with
    | zero =>
      intro i iv σ1 hiv hik I1 F1 hres
      refine zz_iload_n C d_SM_keepFieldsOf_9 rfl ?_
      refine zz_aload_n C d_SM_keepFieldsOf_10 rfl ?_
      refine zz_getN C (ci := 1) (N := 4) 2 rfl zi_Ce (by decide) fn_SM_182 (xw_7 hl) rfl d_SM_keepFieldsOf_11 ?_
      refine zz_icmp_ge (tgt := 38) C d_SM_keepFieldsOf_14 (by decide) (fun h14 => ?_) (fun h14 => ?_)
      · exact xr_v C hr d_SM_keepFieldsOf_38 hres
      · refine zz_iload_n C d_SM_keepFieldsOf_17 rfl ?_
        refine zz_iconst (x := 4) C d_SM_keepFieldsOf_18 rfl ?_
        refine zz_icmp_ge (tgt := 38) C d_SM_keepFieldsOf_19 (by decide) (fun h19 => ?_) (fun h19 => ?_)
        · exact xr_v C hr d_SM_keepFieldsOf_38 hres
        · exact absurd (z_ge (N := 4) hiv rfl (by omega) (by omega)) h19
    | succ k ih =>
      intro i iv σ1 hiv hik I1 F1 hres
      unfold xf_kl at hres
      have hix : iv.toNatClampNeg = i := z_ixI hiv (by omega)
      refine zz_iload_n C d_SM_keepFieldsOf_9 rfl ?_
      refine zz_aload_n C d_SM_keepFieldsOf_10 rfl ?_
      refine zz_getN C (ci := 1) (N := 4) 2 rfl zi_Ce (by decide) fn_SM_182 (xw_7 hl) rfl d_SM_keepFieldsOf_11 ?_
      refine zz_icmp_ge (tgt := 38) C d_SM_keepFieldsOf_14 (by decide) (fun h14 => ?_) (fun h14 => ?_)
      · exact xr_v C hr d_SM_keepFieldsOf_38 (by rw [← hres, if_pos (by rw [← hiv]; exact h14)])
      · refine zz_iload_n C d_SM_keepFieldsOf_17 rfl ?_
        refine zz_iconst (x := 4) C d_SM_keepFieldsOf_18 rfl ?_
        refine zz_icmp_ge (tgt := 38) C d_SM_keepFieldsOf_19 (by decide) (fun h19 => ?_) (fun h19 => ?_)
        · exact absurd h19 (z_nge hiv rfl (show i < 4 by omega) (by decide))
        · refine zz_aload_n C d_SM_keepFieldsOf_22 rfl ?_
          refine zz_aload_n C d_SM_keepFieldsOf_23 rfl ?_
          refine zz_getN C (ci := 1) (N := 4) 0 rfl zi_Ce (by decide) fn_SM_143 (xw_7 hl) rfl d_SM_keepFieldsOf_24 ?_
          refine zz_iload_n C d_SM_keepFieldsOf_27 rfl ?_
          refine zz_iald C (t0 := 0) rfl (xw_8 hl) (z_vinI hiv (by omega) (by decide)) d_SM_keepFieldsOf_28 ?_
          refine xc_Vv C (xw_0 Nat.zero_lt_one) rfl s_SM_191 (c_SM_keep (by rw [hix]; exact I1.2.2.2.2.1 _ hl i (by omega)) F1) rfl rfl d_SM_keepFieldsOf_29 k_SM_keep ⟨by decide, by decide⟩ rfl ?_
          refine zz_iinc (d' := 1) C d_SM_keepFieldsOf_32 rfl rfl (by decide) ?_
          refine zz_goto (tgt := 9) C d_SM_keepFieldsOf_35 (by decide) ?_
          refine zz_lv [0, 2, 3] rfl ?_
          rw [hix]
          exact ih (i + 1) _ _ (z_sI hiv) (by omega) (x_keep_I I1) (x_keep_F F1 (I1.2.2.2.2.1 _ hl i (by omega))) (by rw [← hres, if_neg (by rw [← hiv]; exact h14)])
  refine zz_aload_n C d_SM_keepFieldsOf_0 rfl ?_
  refine zz_get C (ci := 3) (N := 8) 1 rfl zi_SM (by decide) fl_SM_17 (xw_0 Nat.zero_lt_one) rfl d_SM_keepFieldsOf_1 ?_
  refine zz_iload_n C d_SM_keepFieldsOf_4 rfl ?_
  refine zz_aald C (t0 := 3) rfl (xw_2 Nat.zero_lt_one) ho (fun h9 => if_pos h9) d_SM_keepFieldsOf_5 (fun b5 => ?_)
  refine zz_astore_n C d_SM_keepFieldsOf_6 (by decide) ?_
  refine zz_iconst (x := 0) C d_SM_keepFieldsOf_7 rfl ?_
  refine zz_istore_n C d_SM_keepFieldsOf_8 (by decide) ?_
  refine zz_lv [0, 2, 3] rfl ?_
  exact loop 4 0 _ _ nI_0.symm rfl I F rfl
set_option maxHeartbeats 400000 in
set_option maxRecDepth 100000 in
theorem c_SM_findKept {l : Launch} {D : va_G} {dA : Nat → ClassId} {lo n : Nat} {σ : zS} (I : xI σ) : xM l y_SM_findKept b_SM_findKept 2 none 3 D dA lo n [.ref (xa0 lo 0)] σ none (xf_findKept σ) := by
  refine zM_of (lv0 := [(0, .ref (xa0 lo 0))]) (by decide) rfl rfl rfl ?_
  intro p e s m below meth c C hr hnm hsz
  have C : zC p s m ([.ref (xa0 lo 0)] : List Value).toArray meth c b_SM_findKept 2 R_SM D dA := C
  have loop4 : ∀ (k i : Nat) (iv : Int32) (σ1 : zS), iv = nI i → i + k = 40 → xI σ1 → xF σ1 → xf_k3 k i σ1 = xf_findKept σ → xZ p l e 3 s m ([.ref (xa0 lo 0)] : List Value).toArray below meth c D dA lo 2 n none (xf_findKept σ) (σ1) 98 [(0, .ref (xa0 lo 0)), (1, .int iv)] [] := by
    intro k
    induction k with
    | zero =>
      intro i iv σ1 hiv hik I1 F1 hres
      refine zz_iload_n C d_SM_findKept_98 rfl ?_
      refine zz_aload_n C d_SM_findKept_99 rfl ?_
      refine zz_get C (ci := 3) (N := 8) 5 rfl zi_SM (by decide) fl_SM_170 (xw_0 Nat.zero_lt_one) rfl d_SM_findKept_100 ?_
      refine zz_icmp_ge (tgt := 128) C d_SM_findKept_103 (by decide) (fun h103 => ?_) (fun h103 => ?_)
      · exact xr_v C hr d_SM_findKept_128 hres
      · refine zz_iload_n C d_SM_findKept_106 rfl ?_
        refine zz_bipush (x := 40) C d_SM_findKept_107 rfl ?_
        refine zz_icmp_ge (tgt := 128) C d_SM_findKept_109 (by decide) (fun h109 => ?_) (fun h109 => ?_)
        · exact xr_v C hr d_SM_findKept_128 hres
        · exact absurd (z_ge (N := 40) hiv rfl (by omega) (by omega)) h109
    | succ k ih =>
      intro i iv σ1 hiv hik I1 F1 hres
      unfold xf_k3 at hres
      have hix : iv.toNatClampNeg = i := z_ixI hiv (by omega)
      refine zz_iload_n C d_SM_findKept_98 rfl ?_
      refine zz_aload_n C d_SM_findKept_99 rfl ?_
      refine zz_get C (ci := 3) (N := 8) 5 rfl zi_SM (by decide) fl_SM_170 (xw_0 Nat.zero_lt_one) rfl d_SM_findKept_100 ?_
      refine zz_icmp_ge (tgt := 128) C d_SM_findKept_103 (by decide) (fun h103 => ?_) (fun h103 => ?_)
      · exact xr_v C hr d_SM_findKept_128 (by rw [← hres, if_pos (by rw [← hiv]; exact h103)])
      · refine zz_iload_n C d_SM_findKept_106 rfl ?_
        refine zz_bipush (x := 40) C d_SM_findKept_107 rfl ?_
        refine zz_icmp_ge (tgt := 128) C d_SM_findKept_109 (by decide) (fun h109 => ?_) (fun h109 => ?_)
        · exact absurd h109 (z_nge hiv rfl (show i < 40 by omega) (by decide))
        · refine zz_aload_n C d_SM_findKept_112 rfl ?_
          refine zz_aload_n C d_SM_findKept_113 rfl ?_
          refine zz_get C (ci := 3) (N := 8) 4 rfl zi_SM (by decide) fl_SM_31 (xw_0 Nat.zero_lt_one) rfl d_SM_findKept_114 ?_
          refine zz_iload_n C d_SM_findKept_117 rfl ?_
          refine zz_iald C (t0 := 0) rfl (xw_5 Nat.zero_lt_one) (z_vinI hiv (by omega) (by decide)) d_SM_findKept_118 ?_
          refine xc_Vv C (xw_0 Nat.zero_lt_one) rfl s_SM_194 (c_SM_keepFieldsOf I1 F1 (by rw [hix]; exact x_found F1 (by rw [← hiv]; exact h103) (by omega))) rfl rfl d_SM_findKept_119 k_SM_keepFieldsOf ⟨by decide, by decide⟩ rfl ?_
          refine zz_iinc (d' := 1) C d_SM_findKept_122 rfl rfl (by decide) ?_
          refine zz_goto (tgt := 98) C d_SM_findKept_125 (by decide) ?_
          refine zz_lv [0, 1] rfl ?_
          rw [hix]
          have h2 := x_kfo_IF (x_found F1 (by rw [← hiv]; exact h103) (by omega)) I1 F1
          exact ih (i + 1) _ _ (z_sI hiv) (by omega) h2.1 h2.2 (by rw [← hres, if_neg (by rw [← hiv]; exact h103)])
  have loop3 : ∀ (k i : Nat) (iv : Int32) (σ1 : zS), iv = nI i → i + k = 40 → xI σ1 → xF σ1 → xf_k3 40 0 (xf_k2 k i σ1) = xf_findKept σ → xZ p l e 3 s m ([.ref (xa0 lo 0)] : List Value).toArray below meth c D dA lo 2 n none (xf_findKept σ) (σ1) 54 [(0, .ref (xa0 lo 0)), (1, .int iv)] [] := by
    intro k
    induction k with
    | zero =>
      intro i iv σ1 hiv hik I1 F1 hres
      refine zz_iload_n C d_SM_findKept_54 rfl ?_
      refine zz_bipush (x := 40) C d_SM_findKept_55 rfl ?_
      refine zz_icmp_ge (tgt := 96) C d_SM_findKept_57 (by decide) (fun h57 => ?_) (fun h57 => ?_)
      · refine zz_iconst (x := 0) C d_SM_findKept_96 rfl ?_
        refine zz_istore_n C d_SM_findKept_97 (by decide) ?_
        refine zz_lv [0, 1] rfl ?_
        exact loop4 40 0 _ _ nI_0.symm rfl I1 F1 hres
      · exact absurd (z_ge (N := 40) hiv rfl (by omega) (by omega)) h57
    | succ k ih =>
      intro i iv σ1 hiv hik I1 F1 hres
      unfold xf_k2 at hres
      have hix : iv.toNatClampNeg = i := z_ixI hiv (by omega)
      refine zz_iload_n C d_SM_findKept_54 rfl ?_
      refine zz_bipush (x := 40) C d_SM_findKept_55 rfl ?_
      refine zz_icmp_ge (tgt := 96) C d_SM_findKept_57 (by decide) (fun h57 => ?_) (fun h57 => ?_)
      · exact absurd h57 (z_nge hiv rfl (show i < 40 by omega) (by decide))
      · refine zz_aload_n C d_SM_findKept_60 rfl ?_
        refine zz_get C (ci := 3) (N := 8) 1 rfl zi_SM (by decide) fl_SM_17 (xw_0 Nat.zero_lt_one) rfl d_SM_findKept_61 ?_
        refine zz_iload_n C d_SM_findKept_64 rfl ?_
        refine zz_aald C (t0 := 3) rfl (xw_2 Nat.zero_lt_one) (z_vinI hiv (by omega) (by decide)) (fun h9 => if_pos h9) d_SM_findKept_65 (fun b65 => ?_)
        refine zz_getN C (ci := 1) (N := 4) 1 rfl zi_Ce (by decide) fn_SM_137 (xw_7 b65) rfl d_SM_findKept_66 ?_
        refine zz_iconst (x := -1) C d_SM_findKept_69 rfl ?_
        refine zz_icmp_eq (tgt := 90) C d_SM_findKept_70 (by decide) (fun h70 => ?_) (fun h70 => ?_)
        · refine zz_iinc (d' := 1) C d_SM_findKept_90 rfl rfl (by decide) ?_
          refine zz_goto (tgt := 54) C d_SM_findKept_93 (by decide) ?_
          refine zz_lv [0, 1] rfl ?_
          rw [hix] at h70
          have h2 := x_k2s_IF (i := i) (by omega) I1 F1
          rw [if_pos h70] at hres h2
          exact ih (i + 1) _ _ (z_sI hiv) (by omega) h2.1 h2.2 hres
        · refine zz_aload_n C d_SM_findKept_73 rfl ?_
          refine zz_get C (ci := 3) (N := 8) 1 rfl zi_SM (by decide) fl_SM_17 (xw_0 Nat.zero_lt_one) rfl d_SM_findKept_74 ?_
          refine zz_iload_n C d_SM_findKept_77 rfl ?_
          refine zz_aald C (t0 := 3) rfl (xw_2 Nat.zero_lt_one) (z_vinI hiv (by omega) (by decide)) (fun h9 => if_pos h9) d_SM_findKept_78 (fun b78 => ?_)
          refine zz_getN C (ci := 1) (N := 4) 1 rfl zi_Ce (by decide) fn_SM_137 (xw_7 b78) rfl d_SM_findKept_79 ?_
          refine zz_if_eq (tgt := 90) C d_SM_findKept_82 (by decide) (fun h82 => ?_) (fun h82 => ?_)
          · refine zz_iinc (d' := 1) C d_SM_findKept_90 rfl rfl (by decide) ?_
            refine zz_goto (tgt := 54) C d_SM_findKept_93 (by decide) ?_
            refine zz_lv [0, 1] rfl ?_
            rw [hix] at h70 h82
            have h2 := x_k2s_IF (i := i) (by omega) I1 F1
            rw [if_neg h70, if_pos h82] at hres h2
            exact ih (i + 1) _ _ (z_sI hiv) (by omega) h2.1 h2.2 hres
          · refine zz_aload_n C d_SM_findKept_85 rfl ?_
            refine zz_iload_n C d_SM_findKept_86 rfl ?_
            refine xc_Vv C (xw_0 Nat.zero_lt_one) rfl s_SM_194 (c_SM_keepFieldsOf I1 F1 (z_vinI hiv (by omega) (by decide))) rfl rfl d_SM_findKept_87 k_SM_keepFieldsOf ⟨by decide, by decide⟩ rfl ?_
            refine zz_iinc (d' := 1) C d_SM_findKept_90 rfl rfl (by decide) ?_
            refine zz_goto (tgt := 54) C d_SM_findKept_93 (by decide) ?_
            refine zz_lv [0, 1] rfl ?_
            rw [hix] at h70 h82
            have h2 := x_k2s_IF (i := i) (by omega) I1 F1
            rw [if_neg h70, if_neg h82, ← hiv] at hres h2
            exact ih (i + 1) _ _ (z_sI hiv) (by omega) h2.1 h2.2 hres
  have loop2 : ∀ (k i : Nat) (iv : Int32) (σ1 : zS), iv = nI i → i + k = 4 → xI σ1 → xF σ1 → xf_k3 40 0 (xf_k2 40 0 (xf_k1 k i σ1)) = xf_findKept σ → xZ p l e 3 s m ([.ref (xa0 lo 0)] : List Value).toArray below meth c D dA lo 2 n none (xf_findKept σ) (σ1) 31 [(0, .ref (xa0 lo 0)), (1, .int iv)] [] := by
    intro k
    induction k with
    | zero =>
      intro i iv σ1 hiv hik I1 F1 hres
      refine zz_iload_n C d_SM_findKept_31 rfl ?_
      refine zz_iconst (x := 4) C d_SM_findKept_32 rfl ?_
      refine zz_icmp_ge (tgt := 52) C d_SM_findKept_33 (by decide) (fun h33 => ?_) (fun h33 => ?_)
      · refine zz_iconst (x := 0) C d_SM_findKept_52 rfl ?_
        refine zz_istore_n C d_SM_findKept_53 (by decide) ?_
        refine zz_lv [0, 1] rfl ?_
        exact loop3 40 0 _ _ nI_0.symm rfl I1 F1 hres
      · exact absurd (z_ge (N := 4) hiv rfl (by omega) (by omega)) h33
    | succ k ih =>
      intro i iv σ1 hiv hik I1 F1 hres
      unfold xf_k1 at hres
      have hix : iv.toNatClampNeg = i := z_ixI hiv (by omega)
      refine zz_iload_n C d_SM_findKept_31 rfl ?_
      refine zz_iconst (x := 4) C d_SM_findKept_32 rfl ?_
      refine zz_icmp_ge (tgt := 52) C d_SM_findKept_33 (by decide) (fun h33 => ?_) (fun h33 => ?_)
      · exact absurd h33 (z_nge hiv rfl (show i < 4 by omega) (by decide))
      · refine zz_aload_n C d_SM_findKept_36 rfl ?_
        refine zz_aload_n C d_SM_findKept_37 rfl ?_
        refine zz_get C (ci := 3) (N := 8) 3 rfl zi_SM (by decide) fl_SM_27 (xw_0 Nat.zero_lt_one) rfl d_SM_findKept_38 ?_
        refine zz_iload_n C d_SM_findKept_41 rfl ?_
        refine zz_iald C (t0 := 0) rfl (xw_4 Nat.zero_lt_one) (z_vinI hiv (by omega) (by decide)) d_SM_findKept_42 ?_
        refine xc_Vv C (xw_0 Nat.zero_lt_one) rfl s_SM_191 (c_SM_keep (by rw [hix]; exact I1.2.2.2.2.2.2.2.2.1 i (by omega)) F1) rfl rfl d_SM_findKept_43 k_SM_keep ⟨by decide, by decide⟩ rfl ?_
        refine zz_iinc (d' := 1) C d_SM_findKept_46 rfl rfl (by decide) ?_
        refine zz_goto (tgt := 31) C d_SM_findKept_49 (by decide) ?_
        refine zz_lv [0, 1] rfl ?_
        rw [hix]
        exact ih (i + 1) _ _ (z_sI hiv) (by omega) (x_keep_I I1) (x_keep_F F1 (I1.2.2.2.2.2.2.2.2.1 i (by omega))) hres
  have loop1 : ∀ (k i : Nat) (iv : Int32) (σ1 : zS), iv = nI i → i + k = 40 → xf_k0 k i σ1 = xf_k0 40 0 (z_up σ 16 0 0 0) → xZ p l e 3 s m ([.ref (xa0 lo 0)] : List Value).toArray below meth c D dA lo 2 n none (xf_findKept σ) (σ1) 7 [(0, .ref (xa0 lo 0)), (1, .int iv)] [] := by
    intro k
    induction k with
    | zero =>
      intro i iv σ1 hiv hik hres
      obtain rfl : σ1 = xf_k0 40 0 (z_up σ 16 0 0 0) := hres
      refine zz_iload_n C d_SM_findKept_7 rfl ?_
      refine zz_bipush (x := 40) C d_SM_findKept_8 rfl ?_
      refine zz_icmp_ge (tgt := 29) C d_SM_findKept_10 (by decide) (fun h10 => ?_) (fun h10 => ?_)
      · refine zz_iconst (x := 0) C d_SM_findKept_29 rfl ?_
        refine zz_istore_n C d_SM_findKept_30 (by decide) ?_
        refine zz_lv [0, 1] rfl ?_
        exact loop2 4 0 _ _ nI_0.symm rfl (x_k0_I 40 0 _ (xI_u16 I)) x_k0_F rfl
      · exact absurd (z_ge (N := 40) hiv rfl (by omega) (by omega)) h10
    | succ k ih =>
      intro i iv σ1 hiv hik hres
      unfold xf_k0 at hres
      have hix : iv.toNatClampNeg = i := z_ixI hiv (by omega)
      refine zz_iload_n C d_SM_findKept_7 rfl ?_
      refine zz_bipush (x := 40) C d_SM_findKept_8 rfl ?_
      refine zz_icmp_ge (tgt := 29) C d_SM_findKept_10 (by decide) (fun h10 => ?_) (fun h10 => ?_)
      · exact absurd h10 (z_nge hiv rfl (show i < 40 by omega) (by decide))
      · refine zz_aload_n C d_SM_findKept_13 rfl ?_
        refine zz_get C (ci := 3) (N := 8) 1 rfl zi_SM (by decide) fl_SM_17 (xw_0 Nat.zero_lt_one) rfl d_SM_findKept_14 ?_
        refine zz_iload_n C d_SM_findKept_17 rfl ?_
        refine zz_aald C (t0 := 3) rfl (xw_2 Nat.zero_lt_one) (z_vinI hiv (by omega) (by decide)) (fun h9 => if_pos h9) d_SM_findKept_18 (fun b18 => ?_)
        refine zz_iconst (x := 0) C d_SM_findKept_19 rfl ?_
        refine xpN_8 C fn_SM_155 b18 rfl rfl d_SM_findKept_20 ?_
        refine zz_iinc (d' := 1) C d_SM_findKept_23 rfl rfl (by decide) ?_
        refine zz_goto (tgt := 7) C d_SM_findKept_26 (by decide) ?_
        refine zz_lv [0, 1] rfl ?_
        rw [hix]
        exact ih (i + 1) _ _ (z_sI hiv) (by omega) hres
  refine zz_aload_n C d_SM_findKept_0 rfl ?_
  refine zz_iconst (x := 0) C d_SM_findKept_1 rfl ?_
  refine xp_16 C fl_SM_170 Nat.zero_lt_one rfl rfl d_SM_findKept_2 ?_
  refine zz_iconst (x := 0) C d_SM_findKept_5 rfl ?_
  refine zz_istore_n C d_SM_findKept_6 (by decide) ?_
  refine zz_lv [0, 1] rfl ?_
  exact loop1 40 0 _ _ nI_0.symm rfl rfl
