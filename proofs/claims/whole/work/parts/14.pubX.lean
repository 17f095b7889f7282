set_option maxHeartbeats 400000 in
set_option maxRecDepth 100000 in
theorem c_SM_scope {l : Launch} {D : va_G} {dA : Nat → ClassId} {lo n : Nat} {σ : zS} {size : Int32} (I : xI σ) : xM l y_SM_scope b_SM_scope 3 (some .int) 0 D dA lo n [.ref (xa0 lo 0), .int size] σ (some (.int ((xf_scope σ size).1))) ((xf_scope σ size).2) := by
  refine zM_of (lv0 := [(0, .ref (xa0 lo 0)), (1, .int size)]) (by decide) rfl rfl rfl ?_
  intro p e s m below meth c C hr hnm hsz
  have C : zC p s m ([.ref (xa0 lo 0), .int size] : List Value).toArray meth c b_SM_scope 3 R_SM D dA := C
  refine zz_iload_n C d_SM_scope_0 rfl ?_
  refine zz_iconst (x := 1) C d_SM_scope_1 rfl ?_
  refine zz_icmp_lt (tgt := 11) C d_SM_scope_2 (by decide) (fun h2 => ?_) (fun h2 => ?_)
  · refine zz_iconst (x := -1) C d_SM_scope_11 rfl ?_
    exact xr_i C hr rfl d_SM_scope_12 (by simp only [xf_scope, if_pos h2] <;> simp [xf_scope, z_at]) (by simp only [xf_scope, if_pos h2] <;> simp [xf_scope, z_at])
  · refine zz_iload_n C d_SM_scope_5 rfl ?_
    refine zz_bipush (x := 40) C d_SM_scope_6 rfl ?_
    refine zz_icmp_le (tgt := 13) C d_SM_scope_8 (by decide) (fun h8 => ?_) (fun h8 => ?_)
    · refine zz_aload_n C d_SM_scope_13 rfl ?_
      refine zz_get C (ci := 3) (N := 8) 6 rfl zi_SM (by decide) fl_SM_45 (xw_0 Nat.zero_lt_one) rfl d_SM_scope_14 ?_
      refine zz_bipush (x := 10) C d_SM_scope_17 rfl ?_
      refine zz_icmp_lt (tgt := 25) C d_SM_scope_19 (by decide) (fun h19 => ?_) (fun h19 => ?_)
      · refine zz_aload_n C d_SM_scope_25 rfl ?_
        refine zz_get C (ci := 3) (N := 8) 6 rfl zi_SM (by decide) fl_SM_45 (xw_0 Nat.zero_lt_one) rfl d_SM_scope_26 ?_
        refine zz_istore_n C d_SM_scope_29 (by decide) ?_
        refine zz_aload_n C d_SM_scope_30 rfl ?_
        refine zz_get C (ci := 3) (N := 8) 0 rfl zi_SM (by decide) fl_SM_11 (xw_0 Nat.zero_lt_one) rfl d_SM_scope_31 ?_
        refine zz_iload_n C d_SM_scope_34 rfl ?_
        refine zz_aald C (t0 := 2) rfl (xw_1 Nat.zero_lt_one) (x_nA_in I h19) (fun h9 => if_pos h9) d_SM_scope_35 (fun b35 => ?_)
        refine zz_iload_n C d_SM_scope_36 rfl ?_
        refine xpN_0 C fn_SM_41 b35 rfl rfl d_SM_scope_37 ?_
        refine zz_aload_n C d_SM_scope_40 rfl ?_
        refine zz_dup C d_SM_scope_41 rfl ?_
        refine zz_get C (ci := 3) (N := 8) 6 rfl zi_SM (by decide) fl_SM_45 (xw_0 Nat.zero_lt_one) rfl d_SM_scope_42 ?_
        refine zz_iconst (x := 1) C d_SM_scope_45 rfl ?_
        refine zz_iadd C d_SM_scope_46 ?_
        refine xp_17 C fl_SM_45 Nat.zero_lt_one rfl rfl d_SM_scope_47 ?_
        refine zz_iload_n C d_SM_scope_50 rfl ?_
        exact xr_i C hr rfl d_SM_scope_51 (by simp only [xf_scope, if_neg h2, if_pos h8, if_pos h19] <;> simp [xf_scope, z_at]) (by simp only [xf_scope, if_neg h2, if_pos h8, if_pos h19] <;> simp [xf_scope, z_at])
      · refine zz_bipush (x := -2) C d_SM_scope_22 rfl ?_
        exact xr_i C hr rfl d_SM_scope_24 (by simp only [xf_scope, if_neg h2, if_pos h8, if_neg h19] <;> simp [xf_scope, z_at]) (by simp only [xf_scope, if_neg h2, if_pos h8, if_neg h19] <;> simp [xf_scope, z_at])
    · refine zz_iconst (x := -1) C d_SM_scope_11 rfl ?_
      exact xr_i C hr rfl d_SM_scope_12 (by simp only [xf_scope, if_neg h2, if_neg h8] <;> simp [xf_scope, z_at]) (by simp only [xf_scope, if_neg h2, if_neg h8] <;> simp [xf_scope, z_at])
set_option maxHeartbeats 400000 in
set_option maxRecDepth 100000 in
theorem c_SM_begin {l : Launch} {D : va_G} {dA : Nat → ClassId} {lo n : Nat} {σ : zS} {t h : Int32} (I : xI σ) (hh : h = 0 ∨ h = 1) : xM l y_SM_begin b_SM_begin 3 (some .int) 2 D dA lo n [.ref (xa0 lo 0), .int t, .int h] σ (some (.int ((xf_begin σ t h).1))) ((xf_begin σ t h).2) := by
  refine zM_of (lv0 := [(0, .ref (xa0 lo 0)), (1, .int t), (2, .int h)]) (by decide) rfl rfl rfl ?_
  intro p e s m below meth c C hr hnm hsz
  have C : zC p s m ([.ref (xa0 lo 0), .int t, .int h] : List Value).toArray meth c b_SM_begin 3 R_SM D dA := C
  refine zz_iload_n C d_SM_begin_0 rfl ?_
  refine xc_Si C s_SM_48 c_SM_isThread rfl rfl d_SM_begin_1 k_SM_isThread ⟨by decide, by decide⟩ rfl ?_
  refine zz_if_eq (tgt := 15) C d_SM_begin_4 (by decide) (fun h4 => ?_) (fun h4 => ?_)
  · refine zz_iconst (x := -1) C d_SM_begin_15 rfl ?_
    exact xr_i C hr rfl d_SM_begin_16 (by simp only [xf_begin, if_pos h4] <;> simp [xf_begin, z_at]) (by simp only [xf_begin, if_pos h4] <;> simp [xf_begin, z_at])
  · refine zz_aload_n C d_SM_begin_7 rfl ?_
    refine zz_iload_n C d_SM_begin_8 rfl ?_
    refine xc_Vi C (xw_0 Nat.zero_lt_one) rfl s_SM_52 c_SM_isBegun rfl rfl d_SM_begin_9 k_SM_isBegun ⟨by decide, by decide⟩ rfl ?_
    refine zz_if_eq (tgt := 17) C d_SM_begin_12 (by decide) (fun h12 => ?_) (fun h12 => ?_)
    · refine zz_aload_n C d_SM_begin_17 rfl ?_
      refine zz_get C (ci := 3) (N := 8) 2 rfl zi_SM (by decide) fl_SM_23 (xw_0 Nat.zero_lt_one) rfl d_SM_begin_18 ?_
      refine zz_iload_n C d_SM_begin_21 rfl ?_
      refine zz_aald C (t0 := 4) rfl (xw_3 Nat.zero_lt_one) (x_thr h4) (fun h9 => if_pos h9) d_SM_begin_22 (fun b22 => ?_)
      refine zz_iload_n C d_SM_begin_23 rfl ?_
      refine xpN_13 C fn_SM_55 b22 (x_nb hh) (x_fb hh) d_SM_begin_24 ?_
      refine zz_aload_n C d_SM_begin_27 rfl ?_
      refine zz_get C (ci := 3) (N := 8) 2 rfl zi_SM (by decide) fl_SM_23 (xw_0 Nat.zero_lt_one) rfl d_SM_begin_28 ?_
      refine zz_iload_n C d_SM_begin_31 rfl ?_
      refine zz_aald C (t0 := 4) rfl (xw_3 Nat.zero_lt_one) (x_thr h4) (fun h9 => if_pos h9) d_SM_begin_32 (fun b32 => ?_)
      refine zz_iload_n C d_SM_begin_33 rfl ?_
      refine zz_if_eq (tgt := 41) C d_SM_begin_34 (by decide) (fun h34 => ?_) (fun h34 => ?_)
      · refine zz_iconst (x := 0) C d_SM_begin_41 rfl ?_
        refine zz_iconst (x := -1) C d_SM_begin_42 rfl ?_
        refine zz_iconst (x := 0) C d_SM_begin_43 rfl ?_
        refine xc_VNv C (xw_9 b32) rfl s_SM_59 (c_Ro_push b32 (x_idle_len (σ := σ) I h4 h12)) rfl rfl d_SM_begin_44 k_Ro_push ⟨by decide, by decide⟩ rfl ?_
        refine zz_iconst (x := 0) C d_SM_begin_47 rfl ?_
        exact xr_i C hr rfl d_SM_begin_48 (by simp only [xf_begin, if_neg h4, if_pos h12, if_pos h34] <;> simp [xf_begin, z_at]) (by simp only [xf_begin, if_neg h4, if_pos h12, if_pos h34] <;> simp [xf_begin, z_at])
      · refine zz_iconst (x := 1) C d_SM_begin_37 rfl ?_
        refine zz_goto (tgt := 42) C d_SM_begin_38 (by decide) ?_
        refine zz_iconst (x := -1) C d_SM_begin_42 rfl ?_
        refine zz_iconst (x := 0) C d_SM_begin_43 rfl ?_
        refine xc_VNv C (xw_9 b32) rfl s_SM_59 (c_Ro_push b32 (x_idle_len (σ := σ) I h4 h12)) rfl rfl d_SM_begin_44 k_Ro_push ⟨by decide, by decide⟩ rfl ?_
        refine zz_iconst (x := 0) C d_SM_begin_47 rfl ?_
        exact xr_i C hr rfl d_SM_begin_48 (by simp only [xf_begin, if_neg h4, if_pos h12, if_neg h34] <;> simp [xf_begin, z_at]) (by simp only [xf_begin, if_neg h4, if_pos h12, if_neg h34] <;> simp [xf_begin, z_at])
    · refine zz_iconst (x := -1) C d_SM_begin_15 rfl ?_
      exact xr_i C hr rfl d_SM_begin_16 (by simp only [xf_begin, if_neg h4, if_neg h12] <;> simp [xf_begin, z_at]) (by simp only [xf_begin, if_neg h4, if_neg h12] <;> simp [xf_begin, z_at])
set_option maxHeartbeats 400000 in
set_option maxRecDepth 100000 in
theorem c_SM_enter {l : Launch} {D : va_G} {dA : Nat → ClassId} {lo n : Nat} {σ : zS} {t z : Int32} (I : xI σ) : xM l y_SM_enter b_SM_enter 6 (some .int) 3 D dA lo n [.ref (xa0 lo 0), .int t, .int z] σ (some (.int ((xf_enter σ t z).1))) ((xf_enter σ t z).2) := by
  refine zM_of (lv0 := [(0, .ref (xa0 lo 0)), (1, .int t), (2, .int z)]) (by decide) rfl rfl rfl ?_
  intro p e s m below meth c C hr hnm hsz
  have C : zC p s m ([.ref (xa0 lo 0), .int t, .int z] : List Value).toArray meth c b_SM_enter 6 R_SM D dA := C
  refine zz_aload_n C d_SM_enter_0 rfl ?_
  refine zz_iload_n C d_SM_enter_1 rfl ?_
  refine xc_Vi C (xw_0 Nat.zero_lt_one) rfl s_SM_52 c_SM_isBegun rfl rfl d_SM_enter_2 k_SM_isBegun ⟨by decide, by decide⟩ rfl ?_
  refine zz_if_eq (tgt := 16) C d_SM_enter_5 (by decide) (fun h5 => ?_) (fun h5 => ?_)
  · refine zz_iconst (x := -1) C d_SM_enter_16 rfl ?_
    exact xr_i C hr rfl d_SM_enter_17 (by simp only [xf_enter, xf_enterR, xf_enterT, xf_enterS, if_pos h5] <;> simp [xf_enter, xf_enterR, xf_enterT, xf_enterS, xf_push, xf_top, z_at]) (by simp only [xf_enter, xf_enterR, xf_enterT, xf_enterS, if_pos h5] <;> simp [xf_enter, xf_enterR, xf_enterT, xf_enterS, xf_push, xf_top, z_at])
  · refine zz_aload_n C d_SM_enter_8 rfl ?_
    refine zz_iload_n C d_SM_enter_9 rfl ?_
    refine xc_Vi C (xw_0 Nat.zero_lt_one) rfl s_SM_63 c_SM_isScope rfl rfl d_SM_enter_10 k_SM_isScope ⟨by decide, by decide⟩ rfl ?_
    refine zz_if_ne (tgt := 18) C d_SM_enter_13 (by decide) (fun h13 => ?_) (fun h13 => ?_)
    · refine zz_aload_n C d_SM_enter_18 rfl ?_
      refine zz_get C (ci := 3) (N := 8) 2 rfl zi_SM (by decide) fl_SM_23 (xw_0 Nat.zero_lt_one) rfl d_SM_enter_19 ?_
      refine zz_iload_n C d_SM_enter_22 rfl ?_
      refine zz_aald C (t0 := 4) rfl (xw_3 Nat.zero_lt_one) (x_begun_thr h5) (fun h9 => if_pos h9) d_SM_enter_23 (fun b23 => ?_)
      refine zz_astore_n C d_SM_enter_24 (by decide) ?_
      refine zz_aload_n C d_SM_enter_25 rfl ?_
      refine zz_get C (ci := 3) (N := 8) 0 rfl zi_SM (by decide) fl_SM_11 (xw_0 Nat.zero_lt_one) rfl d_SM_enter_26 ?_
      refine zz_iload_n C d_SM_enter_29 rfl ?_
      refine zz_aald C (t0 := 2) rfl (xw_1 Nat.zero_lt_one) (x_scope_in I h13) (fun h9 => if_pos h9) d_SM_enter_30 (fun b30 => ?_)
      refine zz_astore C d_SM_enter_31 (by decide) ?_
      refine zz_aload_n C d_SM_enter_33 rfl ?_
      refine xc_VNi C (xw_9 b23) rfl s_SM_66 (c_Ro_nearestScope b23 I) rfl rfl d_SM_enter_34 k_Ro_nearestScope ⟨by decide, by decide⟩ rfl ?_
      refine zz_istore C d_SM_enter_37 (by decide) ?_
      refine zz_aload_n C d_SM_enter_39 rfl ?_
      refine zz_iload_n C d_SM_enter_40 rfl ?_
      refine xc_VNi C (xw_9 b23) rfl s_SM_70 (c_Ro_hasInView b23 I) rfl rfl d_SM_enter_41 k_Ro_hasInView ⟨by decide, by decide⟩ rfl ?_
      refine zz_if_ne (tgt := 65) C d_SM_enter_44 (by decide) (fun h44 => ?_) (fun h44 => ?_)
      · refine zz_bipush (x := -3) C d_SM_enter_65 rfl ?_
        exact xr_i C hr rfl d_SM_enter_67 (by simp only [xf_enter, xf_enterR, xf_enterT, xf_enterS, if_neg h5, if_neg h13, if_neg h44] <;> simp [xf_enter, xf_enterR, xf_enterT, xf_enterS, xf_push, xf_top, z_at]) (by simp only [xf_enter, xf_enterR, xf_enterT, xf_enterS, if_neg h5, if_neg h13, if_neg h44] <;> simp [xf_enter, xf_enterR, xf_enterT, xf_enterS, xf_push, xf_top, z_at])
      · refine zz_aload C d_SM_enter_47 rfl ?_
        refine zz_getN C (ci := 0) (N := 5) 2 rfl zi_Ar (by decide) fn_SM_73 (xw_6 b30) rfl d_SM_enter_49 ?_
        refine zz_if_le (tgt := 68) C d_SM_enter_52 (by decide) (fun h52 => ?_) (fun h52 => ?_)
        · refine zz_aload_n C d_SM_enter_68 rfl ?_
          refine xc_VNi C (xw_9 b23) rfl s_SM_79 (c_Ro_isFull b23) rfl rfl d_SM_enter_69 k_Ro_isFull ⟨by decide, by decide⟩ rfl ?_
          refine zz_if_eq (tgt := 78) C d_SM_enter_72 (by decide) (fun h72 => ?_) (fun h72 => ?_)
          · refine zz_aload C d_SM_enter_78 rfl ?_
            refine zz_getN C (ci := 0) (N := 5) 2 rfl zi_Ar (by decide) fn_SM_73 (xw_6 b30) rfl d_SM_enter_80 ?_
            refine zz_if_ne (tgt := 93) C d_SM_enter_83 (by decide) (fun h83 => ?_) (fun h83 => ?_)
            · refine zz_aload C d_SM_enter_93 rfl ?_
              refine zz_dup C d_SM_enter_95 rfl ?_
              refine zz_getN C (ci := 0) (N := 5) 2 rfl zi_Ar (by decide) fn_SM_73 (xw_6 b30) rfl d_SM_enter_96 ?_
              refine zz_iconst (x := 1) C d_SM_enter_99 rfl ?_
              refine zz_iadd C d_SM_enter_100 ?_
              refine xpN_2 C fn_SM_73 b30 rfl rfl d_SM_enter_101 ?_
              refine zz_aload_n C d_SM_enter_104 rfl ?_
              refine zz_iload_n C d_SM_enter_105 rfl ?_
              refine zz_aload_n C d_SM_enter_106 rfl ?_
              refine xc_VNi C (xw_9 b23) rfl s_SM_83 (c_Ro_top b23) rfl rfl d_SM_enter_107 k_Ro_top ⟨by decide, by decide⟩ rfl ?_
              refine zz_iconst (x := 1) C d_SM_enter_110 rfl ?_
              refine xc_VNv C (xw_9 b23) rfl s_SM_59 (c_Ro_push b23 (x_len_in (σ := σ) I b23 h72)) rfl rfl d_SM_enter_111 k_Ro_push ⟨by decide, by decide⟩ rfl ?_
              refine zz_aload C d_SM_enter_114 rfl ?_
              refine zz_getN C (ci := 0) (N := 5) 2 rfl zi_Ar (by decide) fn_SM_73 (xw_6 b30) rfl d_SM_enter_116 ?_
              exact xr_i C hr rfl d_SM_enter_119 (by simp only [xf_enter, xf_enterR, xf_enterT, xf_enterS, if_neg h5, if_neg h13, if_pos h44, if_pos h52, if_pos h72, if_neg h83] <;> simp [xf_enter, xf_enterR, xf_enterT, xf_enterS, xf_push, xf_top, z_at]) (by simp only [xf_enter, xf_enterR, xf_enterT, xf_enterS, if_neg h5, if_neg h13, if_pos h44, if_pos h52, if_pos h72, if_neg h83] <;> simp [xf_enter, xf_enterR, xf_enterT, xf_enterS, xf_push, xf_top, z_at])
            · refine zz_aload C d_SM_enter_86 rfl ?_
              refine zz_iload C d_SM_enter_88 rfl ?_
              refine xpN_3 C fn_SM_76 b30 rfl rfl d_SM_enter_90 ?_
              refine zz_aload C d_SM_enter_93 rfl ?_
              refine zz_dup C d_SM_enter_95 rfl ?_
              refine zz_getN C (ci := 0) (N := 5) 2 rfl zi_Ar (by decide) fn_SM_73 (xw_6 b30) rfl d_SM_enter_96 ?_
              refine zz_iconst (x := 1) C d_SM_enter_99 rfl ?_
              refine zz_iadd C d_SM_enter_100 ?_
              refine xpN_2 C fn_SM_73 b30 rfl rfl d_SM_enter_101 ?_
              refine zz_aload_n C d_SM_enter_104 rfl ?_
              refine zz_iload_n C d_SM_enter_105 rfl ?_
              refine zz_aload_n C d_SM_enter_106 rfl ?_
              refine xc_VNi C (xw_9 b23) rfl s_SM_83 (c_Ro_top b23) rfl rfl d_SM_enter_107 k_Ro_top ⟨by decide, by decide⟩ rfl ?_
              refine zz_iconst (x := 1) C d_SM_enter_110 rfl ?_
              refine xc_VNv C (xw_9 b23) rfl s_SM_59 (c_Ro_push b23 (x_len_in (σ := σ) I b23 h72)) rfl rfl d_SM_enter_111 k_Ro_push ⟨by decide, by decide⟩ rfl ?_
              refine zz_aload C d_SM_enter_114 rfl ?_
              refine zz_getN C (ci := 0) (N := 5) 2 rfl zi_Ar (by decide) fn_SM_73 (xw_6 b30) rfl d_SM_enter_116 ?_
              exact xr_i C hr rfl d_SM_enter_119 (by simp only [xf_enter, xf_enterR, xf_enterT, xf_enterS, if_neg h5, if_neg h13, if_pos h44, if_pos h52, if_pos h72, if_pos h83] <;> simp [xf_enter, xf_enterR, xf_enterT, xf_enterS, xf_push, xf_top, z_at]) (by simp only [xf_enter, xf_enterR, xf_enterT, xf_enterS, if_neg h5, if_neg h13, if_pos h44, if_pos h52, if_pos h72, if_pos h83] <;> simp [xf_enter, xf_enterR, xf_enterT, xf_enterS, xf_push, xf_top, z_at])
          · refine zz_bipush (x := -2) C d_SM_enter_75 rfl ?_
            exact xr_i C hr rfl d_SM_enter_77 (by simp only [xf_enter, xf_enterR, xf_enterT, xf_enterS, if_neg h5, if_neg h13, if_pos h44, if_pos h52, if_neg h72] <;> simp [xf_enter, xf_enterR, xf_enterT, xf_enterS, xf_push, xf_top, z_at]) (by simp only [xf_enter, xf_enterR, xf_enterT, xf_enterS, if_neg h5, if_neg h13, if_pos h44, if_pos h52, if_neg h72] <;> simp [xf_enter, xf_enterR, xf_enterT, xf_enterS, xf_push, xf_top, z_at])
        · refine zz_aload C d_SM_enter_55 rfl ?_
          refine zz_getN C (ci := 0) (N := 5) 3 rfl zi_Ar (by decide) fn_SM_76 (xw_6 b30) rfl d_SM_enter_57 ?_
          refine zz_iload C d_SM_enter_60 rfl ?_
          refine zz_icmp_eq (tgt := 68) C d_SM_enter_62 (by decide) (fun h62 => ?_) (fun h62 => ?_)
          · refine zz_aload_n C d_SM_enter_68 rfl ?_
            refine xc_VNi C (xw_9 b23) rfl s_SM_79 (c_Ro_isFull b23) rfl rfl d_SM_enter_69 k_Ro_isFull ⟨by decide, by decide⟩ rfl ?_
            refine zz_if_eq (tgt := 78) C d_SM_enter_72 (by decide) (fun h72 => ?_) (fun h72 => ?_)
            · refine zz_aload C d_SM_enter_78 rfl ?_
              refine zz_getN C (ci := 0) (N := 5) 2 rfl zi_Ar (by decide) fn_SM_73 (xw_6 b30) rfl d_SM_enter_80 ?_
              refine zz_if_ne (tgt := 93) C d_SM_enter_83 (by decide) (fun h83 => ?_) (fun h83 => ?_)
              · refine zz_aload C d_SM_enter_93 rfl ?_
                refine zz_dup C d_SM_enter_95 rfl ?_
                refine zz_getN C (ci := 0) (N := 5) 2 rfl zi_Ar (by decide) fn_SM_73 (xw_6 b30) rfl d_SM_enter_96 ?_
                refine zz_iconst (x := 1) C d_SM_enter_99 rfl ?_
                refine zz_iadd C d_SM_enter_100 ?_
                refine xpN_2 C fn_SM_73 b30 rfl rfl d_SM_enter_101 ?_
                refine zz_aload_n C d_SM_enter_104 rfl ?_
                refine zz_iload_n C d_SM_enter_105 rfl ?_
                refine zz_aload_n C d_SM_enter_106 rfl ?_
                refine xc_VNi C (xw_9 b23) rfl s_SM_83 (c_Ro_top b23) rfl rfl d_SM_enter_107 k_Ro_top ⟨by decide, by decide⟩ rfl ?_
                refine zz_iconst (x := 1) C d_SM_enter_110 rfl ?_
                refine xc_VNv C (xw_9 b23) rfl s_SM_59 (c_Ro_push b23 (x_len_in (σ := σ) I b23 h72)) rfl rfl d_SM_enter_111 k_Ro_push ⟨by decide, by decide⟩ rfl ?_
                refine zz_aload C d_SM_enter_114 rfl ?_
                refine zz_getN C (ci := 0) (N := 5) 2 rfl zi_Ar (by decide) fn_SM_73 (xw_6 b30) rfl d_SM_enter_116 ?_
                exact xr_i C hr rfl d_SM_enter_119 (by simp only [xf_enter, xf_enterR, xf_enterT, xf_enterS, if_neg h5, if_neg h13, if_pos h44, if_neg h52, if_pos h62, if_pos h72, if_neg h83] <;> simp [xf_enter, xf_enterR, xf_enterT, xf_enterS, xf_push, xf_top, z_at]) (by simp only [xf_enter, xf_enterR, xf_enterT, xf_enterS, if_neg h5, if_neg h13, if_pos h44, if_neg h52, if_pos h62, if_pos h72, if_neg h83] <;> simp [xf_enter, xf_enterR, xf_enterT, xf_enterS, xf_push, xf_top, z_at])
              · refine zz_aload C d_SM_enter_86 rfl ?_
                refine zz_iload C d_SM_enter_88 rfl ?_
                refine xpN_3 C fn_SM_76 b30 rfl rfl d_SM_enter_90 ?_
                refine zz_aload C d_SM_enter_93 rfl ?_
                refine zz_dup C d_SM_enter_95 rfl ?_
                refine zz_getN C (ci := 0) (N := 5) 2 rfl zi_Ar (by decide) fn_SM_73 (xw_6 b30) rfl d_SM_enter_96 ?_
                refine zz_iconst (x := 1) C d_SM_enter_99 rfl ?_
                refine zz_iadd C d_SM_enter_100 ?_
                refine xpN_2 C fn_SM_73 b30 rfl rfl d_SM_enter_101 ?_
                refine zz_aload_n C d_SM_enter_104 rfl ?_
                refine zz_iload_n C d_SM_enter_105 rfl ?_
                refine zz_aload_n C d_SM_enter_106 rfl ?_
                refine xc_VNi C (xw_9 b23) rfl s_SM_83 (c_Ro_top b23) rfl rfl d_SM_enter_107 k_Ro_top ⟨by decide, by decide⟩ rfl ?_
                refine zz_iconst (x := 1) C d_SM_enter_110 rfl ?_
                refine xc_VNv C (xw_9 b23) rfl s_SM_59 (c_Ro_push b23 (x_len_in (σ := σ) I b23 h72)) rfl rfl d_SM_enter_111 k_Ro_push ⟨by decide, by decide⟩ rfl ?_
                refine zz_aload C d_SM_enter_114 rfl ?_
                refine zz_getN C (ci := 0) (N := 5) 2 rfl zi_Ar (by decide) fn_SM_73 (xw_6 b30) rfl d_SM_enter_116 ?_
                exact xr_i C hr rfl d_SM_enter_119 (by simp only [xf_enter, xf_enterR, xf_enterT, xf_enterS, if_neg h5, if_neg h13, if_pos h44, if_neg h52, if_pos h62, if_pos h72, if_pos h83] <;> simp [xf_enter, xf_enterR, xf_enterT, xf_enterS, xf_push, xf_top, z_at]) (by simp only [xf_enter, xf_enterR, xf_enterT, xf_enterS, if_neg h5, if_neg h13, if_pos h44, if_neg h52, if_pos h62, if_pos h72, if_pos h83] <;> simp [xf_enter, xf_enterR, xf_enterT, xf_enterS, xf_push, xf_top, z_at])
            · refine zz_bipush (x := -2) C d_SM_enter_75 rfl ?_
              exact xr_i C hr rfl d_SM_enter_77 (by simp only [xf_enter, xf_enterR, xf_enterT, xf_enterS, if_neg h5, if_neg h13, if_pos h44, if_neg h52, if_pos h62, if_neg h72] <;> simp [xf_enter, xf_enterR, xf_enterT, xf_enterS, xf_push, xf_top, z_at]) (by simp only [xf_enter, xf_enterR, xf_enterT, xf_enterS, if_neg h5, if_neg h13, if_pos h44, if_neg h52, if_pos h62, if_neg h72] <;> simp [xf_enter, xf_enterR, xf_enterT, xf_enterS, xf_push, xf_top, z_at])
          · refine zz_bipush (x := -3) C d_SM_enter_65 rfl ?_
            exact xr_i C hr rfl d_SM_enter_67 (by simp only [xf_enter, xf_enterR, xf_enterT, xf_enterS, if_neg h5, if_neg h13, if_pos h44, if_neg h52, if_neg h62] <;> simp [xf_enter, xf_enterR, xf_enterT, xf_enterS, xf_push, xf_top, z_at]) (by simp only [xf_enter, xf_enterR, xf_enterT, xf_enterS, if_neg h5, if_neg h13, if_pos h44, if_neg h52, if_neg h62] <;> simp [xf_enter, xf_enterR, xf_enterT, xf_enterS, xf_push, xf_top, z_at])
    · refine zz_iconst (x := -1) C d_SM_enter_16 rfl ?_
      exact xr_i C hr rfl d_SM_enter_17 (by simp only [xf_enter, xf_enterR, xf_enterT, xf_enterS, if_neg h5, if_pos h13] <;> simp [xf_enter, xf_enterR, xf_enterT, xf_enterS, xf_push, xf_top, z_at]) (by simp only [xf_enter, xf_enterR, xf_enterT, xf_enterS, if_neg h5, if_pos h13] <;> simp [xf_enter, xf_enterR, xf_enterT, xf_enterS, xf_push, xf_top, z_at])
set_option maxHeartbeats 400000 in
set_option maxRecDepth 100000 in
theorem c_SM_turn {l : Launch} {D : va_G} {dA : Nat → ClassId} {lo n : Nat} {σ : zS} {t a : Int32} (I : xI σ) : xM l y_SM_turn b_SM_turn 4 (some .int) 3 D dA lo n [.ref (xa0 lo 0), .int t, .int a] σ (some (.int ((xf_turn σ t a).1))) ((xf_turn σ t a).2) := by
  refine zM_of (lv0 := [(0, .ref (xa0 lo 0)), (1, .int t), (2, .int a)]) (by decide) rfl rfl rfl ?_
  intro p e s m below meth c C hr hnm hsz
  have C : zC p s m ([.ref (xa0 lo 0), .int t, .int a] : List Value).toArray meth c b_SM_turn 4 R_SM D dA := C
  refine zz_aload_n C d_SM_turn_0 rfl ?_
  refine zz_iload_n C d_SM_turn_1 rfl ?_
  refine xc_Vi C (xw_0 Nat.zero_lt_one) rfl s_SM_52 c_SM_isBegun rfl rfl d_SM_turn_2 k_SM_isBegun ⟨by decide, by decide⟩ rfl ?_
  refine zz_if_eq (tgt := 16) C d_SM_turn_5 (by decide) (fun h5 => ?_) (fun h5 => ?_)
  · refine zz_iconst (x := -1) C d_SM_turn_16 rfl ?_
    exact xr_i C hr rfl d_SM_turn_17 (by simp only [xf_turn, xf_turn2, xf_turn3, if_pos h5] <;> simp [xf_turn, xf_turn2, xf_turn3, xf_push, z_at]) (by simp only [xf_turn, xf_turn2, xf_turn3, if_pos h5] <;> simp [xf_turn, xf_turn2, xf_turn3, xf_push, z_at])
  · refine zz_aload_n C d_SM_turn_8 rfl ?_
    refine zz_iload_n C d_SM_turn_9 rfl ?_
    refine xc_Vi C (xw_0 Nat.zero_lt_one) rfl s_SM_86 c_SM_isArea rfl rfl d_SM_turn_10 k_SM_isArea ⟨by decide, by decide⟩ rfl ?_
    refine zz_if_ne (tgt := 18) C d_SM_turn_13 (by decide) (fun h13 => ?_) (fun h13 => ?_)
    · refine zz_aload_n C d_SM_turn_18 rfl ?_
      refine zz_get C (ci := 3) (N := 8) 2 rfl zi_SM (by decide) fl_SM_23 (xw_0 Nat.zero_lt_one) rfl d_SM_turn_19 ?_
      refine zz_iload_n C d_SM_turn_22 rfl ?_
      refine zz_aald C (t0 := 4) rfl (xw_3 Nat.zero_lt_one) (x_begun_thr h5) (fun h9 => if_pos h9) d_SM_turn_23 (fun b23 => ?_)
      refine zz_astore_n C d_SM_turn_24 (by decide) ?_
      refine zz_iload_n C d_SM_turn_25 rfl ?_
      refine zz_if_ne (tgt := 39) C d_SM_turn_26 (by decide) (fun h26 => ?_) (fun h26 => ?_)
      · refine zz_aload_n C d_SM_turn_39 rfl ?_
        refine zz_iload_n C d_SM_turn_40 rfl ?_
        refine xc_Vi C (xw_0 Nat.zero_lt_one) rfl s_SM_63 c_SM_isScope rfl rfl d_SM_turn_41 k_SM_isScope ⟨by decide, by decide⟩ rfl ?_
        refine zz_if_eq (tgt := 58) C d_SM_turn_44 (by decide) (fun h44 => ?_) (fun h44 => ?_)
        · refine zz_aload_n C d_SM_turn_58 rfl ?_
          refine xc_VNi C (xw_9 b23) rfl s_SM_79 (c_Ro_isFull b23) rfl rfl d_SM_turn_59 k_Ro_isFull ⟨by decide, by decide⟩ rfl ?_
          refine zz_if_eq (tgt := 68) C d_SM_turn_62 (by decide) (fun h62 => ?_) (fun h62 => ?_)
          · refine zz_aload_n C d_SM_turn_68 rfl ?_
            refine zz_iload_n C d_SM_turn_69 rfl ?_
            refine zz_aload_n C d_SM_turn_70 rfl ?_
            refine zz_iload_n C d_SM_turn_71 rfl ?_
            refine xc_Vi C (xw_0 Nat.zero_lt_one) rfl s_SM_63 c_SM_isScope rfl rfl d_SM_turn_72 k_SM_isScope ⟨by decide, by decide⟩ rfl ?_
            refine zz_if_eq (tgt := 86) C d_SM_turn_75 (by decide) (fun h75 => ?_) (fun h75 => ?_)
            · refine zz_iconst (x := -1) C d_SM_turn_86 rfl ?_
              refine zz_iconst (x := 0) C d_SM_turn_87 rfl ?_
              refine xc_VNv C (xw_9 b23) rfl s_SM_59 (c_Ro_push b23 (x_len_in (σ := σ) I b23 h62)) rfl rfl d_SM_turn_88 k_Ro_push ⟨by decide, by decide⟩ rfl ?_
              refine zz_aload_n C d_SM_turn_91 rfl ?_
              refine zz_getN C (ci := 2) (N := 5) 3 rfl zi_Ro (by decide) fn_SM_92 (xw_9 b23) rfl d_SM_turn_92 ?_
              exact xr_i C hr rfl d_SM_turn_95 (by simp only [xf_turn, xf_turn2, xf_turn3, if_neg h5, if_neg h13, if_neg h26, if_pos h44, if_pos h62, if_pos h75] <;> simp [xf_turn, xf_turn2, xf_turn3, xf_push, z_at]) (by simp only [xf_turn, xf_turn2, xf_turn3, if_neg h5, if_neg h13, if_neg h26, if_pos h44, if_pos h62, if_pos h75] <;> simp [xf_turn, xf_turn2, xf_turn3, xf_push, z_at])
            · exact absurd h44 h75
          · refine zz_bipush (x := -2) C d_SM_turn_65 rfl ?_
            exact xr_i C hr rfl d_SM_turn_67 (by simp only [xf_turn, xf_turn2, xf_turn3, if_neg h5, if_neg h13, if_neg h26, if_pos h44, if_neg h62] <;> simp [xf_turn, xf_turn2, xf_turn3, xf_push, z_at]) (by simp only [xf_turn, xf_turn2, xf_turn3, if_neg h5, if_neg h13, if_neg h26, if_pos h44, if_neg h62] <;> simp [xf_turn, xf_turn2, xf_turn3, xf_push, z_at])
        · refine zz_aload_n C d_SM_turn_47 rfl ?_
          refine zz_iload_n C d_SM_turn_48 rfl ?_
          refine xc_VNi C (xw_9 b23) rfl s_SM_70 (c_Ro_hasInView b23 I) rfl rfl d_SM_turn_49 k_Ro_hasInView ⟨by decide, by decide⟩ rfl ?_
          refine zz_if_ne (tgt := 58) C d_SM_turn_52 (by decide) (fun h52 => ?_) (fun h52 => ?_)
          · refine zz_aload_n C d_SM_turn_58 rfl ?_
            refine xc_VNi C (xw_9 b23) rfl s_SM_79 (c_Ro_isFull b23) rfl rfl d_SM_turn_59 k_Ro_isFull ⟨by decide, by decide⟩ rfl ?_
            refine zz_if_eq (tgt := 68) C d_SM_turn_62 (by decide) (fun h62 => ?_) (fun h62 => ?_)
            · refine zz_aload_n C d_SM_turn_68 rfl ?_
              refine zz_iload_n C d_SM_turn_69 rfl ?_
              refine zz_aload_n C d_SM_turn_70 rfl ?_
              refine zz_iload_n C d_SM_turn_71 rfl ?_
              refine xc_Vi C (xw_0 Nat.zero_lt_one) rfl s_SM_63 c_SM_isScope rfl rfl d_SM_turn_72 k_SM_isScope ⟨by decide, by decide⟩ rfl ?_
              refine zz_if_eq (tgt := 86) C d_SM_turn_75 (by decide) (fun h75 => ?_) (fun h75 => ?_)
              · exact absurd h75 h44
              · refine zz_aload_n C d_SM_turn_78 rfl ?_
                refine zz_iload_n C d_SM_turn_79 rfl ?_
                refine xc_VNi C (xw_9 b23) rfl s_SM_89 (c_Ro_underOfFirstWith b23 I) rfl rfl d_SM_turn_80 k_Ro_underOfFirstWith ⟨by decide, by decide⟩ rfl ?_
                refine zz_goto (tgt := 87) C d_SM_turn_83 (by decide) ?_
                refine zz_iconst (x := 0) C d_SM_turn_87 rfl ?_
                refine xc_VNv C (xw_9 b23) rfl s_SM_59 (c_Ro_push b23 (x_len_in (σ := σ) I b23 h62)) rfl rfl d_SM_turn_88 k_Ro_push ⟨by decide, by decide⟩ rfl ?_
                refine zz_aload_n C d_SM_turn_91 rfl ?_
                refine zz_getN C (ci := 2) (N := 5) 3 rfl zi_Ro (by decide) fn_SM_92 (xw_9 b23) rfl d_SM_turn_92 ?_
                exact xr_i C hr rfl d_SM_turn_95 (by simp only [xf_turn, xf_turn2, xf_turn3, if_neg h5, if_neg h13, if_neg h26, if_neg h44, if_neg h52, if_pos h62, if_neg h75] <;> simp [xf_turn, xf_turn2, xf_turn3, xf_push, z_at]) (by simp only [xf_turn, xf_turn2, xf_turn3, if_neg h5, if_neg h13, if_neg h26, if_neg h44, if_neg h52, if_pos h62, if_neg h75] <;> simp [xf_turn, xf_turn2, xf_turn3, xf_push, z_at])
            · refine zz_bipush (x := -2) C d_SM_turn_65 rfl ?_
              exact xr_i C hr rfl d_SM_turn_67 (by simp only [xf_turn, xf_turn2, xf_turn3, if_neg h5, if_neg h13, if_neg h26, if_neg h44, if_neg h52, if_neg h62] <;> simp [xf_turn, xf_turn2, xf_turn3, xf_push, z_at]) (by simp only [xf_turn, xf_turn2, xf_turn3, if_neg h5, if_neg h13, if_neg h26, if_neg h44, if_neg h52, if_neg h62] <;> simp [xf_turn, xf_turn2, xf_turn3, xf_push, z_at])
          · refine zz_bipush (x := -4) C d_SM_turn_55 rfl ?_
            exact xr_i C hr rfl d_SM_turn_57 (by simp only [xf_turn, xf_turn2, xf_turn3, if_neg h5, if_neg h13, if_neg h26, if_neg h44, if_pos h52] <;> simp [xf_turn, xf_turn2, xf_turn3, xf_push, z_at]) (by simp only [xf_turn, xf_turn2, xf_turn3, if_neg h5, if_neg h13, if_neg h26, if_neg h44, if_pos h52] <;> simp [xf_turn, xf_turn2, xf_turn3, xf_push, z_at])
      · refine zz_aload_n C d_SM_turn_29 rfl ?_
        refine zz_getN C (ci := 2) (N := 5) 4 rfl zi_Ro (by decide) fn_SM_55 (xw_9 b23) rfl d_SM_turn_30 ?_
        refine zz_if_eq (tgt := 39) C d_SM_turn_33 (by decide) (fun h33 => ?_) (fun h33 => ?_)
        · refine zz_aload_n C d_SM_turn_39 rfl ?_
          refine zz_iload_n C d_SM_turn_40 rfl ?_
          refine xc_Vi C (xw_0 Nat.zero_lt_one) rfl s_SM_63 c_SM_isScope rfl rfl d_SM_turn_41 k_SM_isScope ⟨by decide, by decide⟩ rfl ?_
          refine zz_if_eq (tgt := 58) C d_SM_turn_44 (by decide) (fun h44 => ?_) (fun h44 => ?_)
          · refine zz_aload_n C d_SM_turn_58 rfl ?_
            refine xc_VNi C (xw_9 b23) rfl s_SM_79 (c_Ro_isFull b23) rfl rfl d_SM_turn_59 k_Ro_isFull ⟨by decide, by decide⟩ rfl ?_
            refine zz_if_eq (tgt := 68) C d_SM_turn_62 (by decide) (fun h62 => ?_) (fun h62 => ?_)
            · refine zz_aload_n C d_SM_turn_68 rfl ?_
              refine zz_iload_n C d_SM_turn_69 rfl ?_
              refine zz_aload_n C d_SM_turn_70 rfl ?_
              refine zz_iload_n C d_SM_turn_71 rfl ?_
              refine xc_Vi C (xw_0 Nat.zero_lt_one) rfl s_SM_63 c_SM_isScope rfl rfl d_SM_turn_72 k_SM_isScope ⟨by decide, by decide⟩ rfl ?_
              refine zz_if_eq (tgt := 86) C d_SM_turn_75 (by decide) (fun h75 => ?_) (fun h75 => ?_)
              · refine zz_iconst (x := -1) C d_SM_turn_86 rfl ?_
                refine zz_iconst (x := 0) C d_SM_turn_87 rfl ?_
                refine xc_VNv C (xw_9 b23) rfl s_SM_59 (c_Ro_push b23 (x_len_in (σ := σ) I b23 h62)) rfl rfl d_SM_turn_88 k_Ro_push ⟨by decide, by decide⟩ rfl ?_
                refine zz_aload_n C d_SM_turn_91 rfl ?_
                refine zz_getN C (ci := 2) (N := 5) 3 rfl zi_Ro (by decide) fn_SM_92 (xw_9 b23) rfl d_SM_turn_92 ?_
                exact xr_i C hr rfl d_SM_turn_95 (by simp only [xf_turn, xf_turn2, xf_turn3, if_neg h5, if_neg h13, if_pos h26, if_pos h33, if_pos h44, if_pos h62, if_pos h75] <;> simp [xf_turn, xf_turn2, xf_turn3, xf_push, z_at]) (by simp only [xf_turn, xf_turn2, xf_turn3, if_neg h5, if_neg h13, if_pos h26, if_pos h33, if_pos h44, if_pos h62, if_pos h75] <;> simp [xf_turn, xf_turn2, xf_turn3, xf_push, z_at])
              · exact absurd h44 h75
            · refine zz_bipush (x := -2) C d_SM_turn_65 rfl ?_
              exact xr_i C hr rfl d_SM_turn_67 (by simp only [xf_turn, xf_turn2, xf_turn3, if_neg h5, if_neg h13, if_pos h26, if_pos h33, if_pos h44, if_neg h62] <;> simp [xf_turn, xf_turn2, xf_turn3, xf_push, z_at]) (by simp only [xf_turn, xf_turn2, xf_turn3, if_neg h5, if_neg h13, if_pos h26, if_pos h33, if_pos h44, if_neg h62] <;> simp [xf_turn, xf_turn2, xf_turn3, xf_push, z_at])
          · refine zz_aload_n C d_SM_turn_47 rfl ?_
            refine zz_iload_n C d_SM_turn_48 rfl ?_
            refine xc_VNi C (xw_9 b23) rfl s_SM_70 (c_Ro_hasInView b23 I) rfl rfl d_SM_turn_49 k_Ro_hasInView ⟨by decide, by decide⟩ rfl ?_
            refine zz_if_ne (tgt := 58) C d_SM_turn_52 (by decide) (fun h52 => ?_) (fun h52 => ?_)
            · refine zz_aload_n C d_SM_turn_58 rfl ?_
              refine xc_VNi C (xw_9 b23) rfl s_SM_79 (c_Ro_isFull b23) rfl rfl d_SM_turn_59 k_Ro_isFull ⟨by decide, by decide⟩ rfl ?_
              refine zz_if_eq (tgt := 68) C d_SM_turn_62 (by decide) (fun h62 => ?_) (fun h62 => ?_)
              · refine zz_aload_n C d_SM_turn_68 rfl ?_
                refine zz_iload_n C d_SM_turn_69 rfl ?_
                refine zz_aload_n C d_SM_turn_70 rfl ?_
                refine zz_iload_n C d_SM_turn_71 rfl ?_
                refine xc_Vi C (xw_0 Nat.zero_lt_one) rfl s_SM_63 c_SM_isScope rfl rfl d_SM_turn_72 k_SM_isScope ⟨by decide, by decide⟩ rfl ?_
                refine zz_if_eq (tgt := 86) C d_SM_turn_75 (by decide) (fun h75 => ?_) (fun h75 => ?_)
                · exact absurd h75 h44
                · refine zz_aload_n C d_SM_turn_78 rfl ?_
                  refine zz_iload_n C d_SM_turn_79 rfl ?_
                  refine xc_VNi C (xw_9 b23) rfl s_SM_89 (c_Ro_underOfFirstWith b23 I) rfl rfl d_SM_turn_80 k_Ro_underOfFirstWith ⟨by decide, by decide⟩ rfl ?_
                  refine zz_goto (tgt := 87) C d_SM_turn_83 (by decide) ?_
                  refine zz_iconst (x := 0) C d_SM_turn_87 rfl ?_
                  refine xc_VNv C (xw_9 b23) rfl s_SM_59 (c_Ro_push b23 (x_len_in (σ := σ) I b23 h62)) rfl rfl d_SM_turn_88 k_Ro_push ⟨by decide, by decide⟩ rfl ?_
                  refine zz_aload_n C d_SM_turn_91 rfl ?_
                  refine zz_getN C (ci := 2) (N := 5) 3 rfl zi_Ro (by decide) fn_SM_92 (xw_9 b23) rfl d_SM_turn_92 ?_
                  exact xr_i C hr rfl d_SM_turn_95 (by simp only [xf_turn, xf_turn2, xf_turn3, if_neg h5, if_neg h13, if_pos h26, if_pos h33, if_neg h44, if_neg h52, if_pos h62, if_neg h75] <;> simp [xf_turn, xf_turn2, xf_turn3, xf_push, z_at]) (by simp only [xf_turn, xf_turn2, xf_turn3, if_neg h5, if_neg h13, if_pos h26, if_pos h33, if_neg h44, if_neg h52, if_pos h62, if_neg h75] <;> simp [xf_turn, xf_turn2, xf_turn3, xf_push, z_at])
              · refine zz_bipush (x := -2) C d_SM_turn_65 rfl ?_
                exact xr_i C hr rfl d_SM_turn_67 (by simp only [xf_turn, xf_turn2, xf_turn3, if_neg h5, if_neg h13, if_pos h26, if_pos h33, if_neg h44, if_neg h52, if_neg h62] <;> simp [xf_turn, xf_turn2, xf_turn3, xf_push, z_at]) (by simp only [xf_turn, xf_turn2, xf_turn3, if_neg h5, if_neg h13, if_pos h26, if_pos h33, if_neg h44, if_neg h52, if_neg h62] <;> simp [xf_turn, xf_turn2, xf_turn3, xf_push, z_at])
            · refine zz_bipush (x := -4) C d_SM_turn_55 rfl ?_
              exact xr_i C hr rfl d_SM_turn_57 (by simp only [xf_turn, xf_turn2, xf_turn3, if_neg h5, if_neg h13, if_pos h26, if_pos h33, if_neg h44, if_pos h52] <;> simp [xf_turn, xf_turn2, xf_turn3, xf_push, z_at]) (by simp only [xf_turn, xf_turn2, xf_turn3, if_neg h5, if_neg h13, if_pos h26, if_pos h33, if_neg h44, if_pos h52] <;> simp [xf_turn, xf_turn2, xf_turn3, xf_push, z_at])
        · refine zz_bipush (x := -5) C d_SM_turn_36 rfl ?_
          exact xr_i C hr rfl d_SM_turn_38 (by simp only [xf_turn, xf_turn2, xf_turn3, if_neg h5, if_neg h13, if_pos h26, if_neg h33] <;> simp [xf_turn, xf_turn2, xf_turn3, xf_push, z_at]) (by simp only [xf_turn, xf_turn2, xf_turn3, if_neg h5, if_neg h13, if_pos h26, if_neg h33] <;> simp [xf_turn, xf_turn2, xf_turn3, xf_push, z_at])
    · refine zz_iconst (x := -1) C d_SM_turn_16 rfl ?_
      exact xr_i C hr rfl d_SM_turn_17 (by simp only [xf_turn, xf_turn2, xf_turn3, if_neg h5, if_pos h13] <;> simp [xf_turn, xf_turn2, xf_turn3, xf_push, z_at]) (by simp only [xf_turn, xf_turn2, xf_turn3, if_neg h5, if_pos h13] <;> simp [xf_turn, xf_turn2, xf_turn3, xf_push, z_at])
set_option maxHeartbeats 400000 in
set_option maxRecDepth 100000 in
theorem c_SM_leave {l : Launch} {D : va_G} {dA : Nat → ClassId} {lo n : Nat} {σ : zS} {t : Int32} (I : xI σ) : xM l y_SM_leave b_SM_leave 5 (some .int) 3 D dA lo n [.ref (xa0 lo 0), .int t] σ (some (.int ((xf_leave σ t).1))) ((xf_leave σ t).2) := by
  refine zM_of (lv0 := [(0, .ref (xa0 lo 0)), (1, .int t)]) (by decide) rfl rfl rfl ?_
  intro p e s m below meth c C hr hnm hsz
  have C : zC p s m ([.ref (xa0 lo 0), .int t] : List Value).toArray meth c b_SM_leave 5 R_SM D dA := C
  refine zz_aload_n C d_SM_leave_0 rfl ?_
  refine zz_iload_n C d_SM_leave_1 rfl ?_
  refine xc_Vi C (xw_0 Nat.zero_lt_one) rfl s_SM_52 c_SM_isBegun rfl rfl d_SM_leave_2 k_SM_isBegun ⟨by decide, by decide⟩ rfl ?_
  refine zz_if_ne (tgt := 10) C d_SM_leave_5 (by decide) (fun h5 => ?_) (fun h5 => ?_)
  · refine zz_aload_n C d_SM_leave_10 rfl ?_
    refine zz_get C (ci := 3) (N := 8) 2 rfl zi_SM (by decide) fl_SM_23 (xw_0 Nat.zero_lt_one) rfl d_SM_leave_11 ?_
    refine zz_iload_n C d_SM_leave_14 rfl ?_
    refine zz_aald C (t0 := 4) rfl (xw_3 Nat.zero_lt_one) (x_begun_thr h5) (fun h9 => if_pos h9) d_SM_leave_15 (fun b15 => ?_)
    refine zz_astore_n C d_SM_leave_16 (by decide) ?_
    refine zz_aload_n C d_SM_leave_17 rfl ?_
    refine xc_VNi C (xw_9 b15) rfl s_SM_95 (c_Ro_currentArea b15 (x_top_in I b15 (x_begun_len h5))) rfl rfl d_SM_leave_18 k_Ro_currentArea ⟨by decide, by decide⟩ rfl ?_
    refine zz_istore_n C d_SM_leave_21 (by decide) ?_
    refine zz_aload_n C d_SM_leave_22 rfl ?_
    refine xc_VNi C (xw_9 b15) rfl s_SM_98 (c_Ro_topWasEntered b15 I (x_top_in I b15 (x_begun_len h5))) rfl rfl d_SM_leave_23 k_Ro_topWasEntered ⟨by decide, by decide⟩ rfl ?_
    refine zz_istore C d_SM_leave_26 (by decide) ?_
    refine zz_aload_n C d_SM_leave_28 rfl ?_
    refine xc_VNv C (xw_9 b15) rfl s_SM_101 (c_Ro_pop b15) rfl rfl d_SM_leave_29 k_Ro_pop ⟨by decide, by decide⟩ rfl ?_
    refine zz_iload C d_SM_leave_32 rfl ?_
    refine zz_if_eq (tgt := 42) C d_SM_leave_34 (by decide) (fun h34 => ?_) (fun h34 => ?_)
    · refine zz_aload_n C d_SM_leave_42 rfl ?_
      refine zz_getN C (ci := 2) (N := 5) 3 rfl zi_Ro (by decide) fn_SM_92 (xw_9 b15) rfl d_SM_leave_43 ?_
      exact xr_i C hr rfl d_SM_leave_46 (by simp only [xf_leave, if_neg h5, if_pos h34] <;> simp [xf_leave, xf_pop, x_dropEntry_12, xf_currentArea, z_at]) (by simp only [xf_leave, if_neg h5, if_pos h34] <;> simp [xf_leave, xf_pop, x_dropEntry_12, xf_currentArea, z_at])
    · refine zz_aload_n C d_SM_leave_37 rfl ?_
      refine zz_iload_n C d_SM_leave_38 rfl ?_
      refine xc_Vv C (xw_0 Nat.zero_lt_one) rfl s_SM_104 (c_SM_dropEntry (I.2.2.2.2.2.2.2.1 _ b15 _ (z_vlt (x_top_in I b15 (x_begun_len h5))))) rfl rfl d_SM_leave_39 k_SM_dropEntry ⟨by decide, by decide⟩ rfl ?_
      refine zz_aload_n C d_SM_leave_42 rfl ?_
      refine zz_getN C (ci := 2) (N := 5) 3 rfl zi_Ro (by decide) fn_SM_92 (xw_9 b15) rfl d_SM_leave_43 ?_
      exact xr_i C hr rfl d_SM_leave_46 (by simp only [xf_leave, if_neg h5, if_neg h34] <;> simp [xf_leave, xf_pop, x_dropEntry_12, xf_currentArea, z_at]) (by simp only [xf_leave, if_neg h5, if_neg h34] <;> simp [xf_leave, xf_pop, x_dropEntry_12, xf_currentArea, z_at])
  · refine zz_iconst (x := -1) C d_SM_leave_8 rfl ?_
    exact xr_i C hr rfl d_SM_leave_9 (by simp only [xf_leave, if_pos h5] <;> simp [xf_leave, xf_pop, x_dropEntry_12, xf_currentArea, z_at]) (by simp only [xf_leave, if_pos h5] <;> simp [xf_leave, xf_pop, x_dropEntry_12, xf_currentArea, z_at])
set_option maxHeartbeats 400000 in
set_option maxRecDepth 100000 in
theorem c_SM_make {l : Launch} {D : va_G} {dA : Nat → ClassId} {lo n : Nat} {σ : zS} {t f : Int32} (I : xI σ) : xM l y_SM_make b_SM_make 5 (some .int) 2 D dA lo n [.ref (xa0 lo 0), .int t, .int f] σ (some (.int ((xf_make σ t f).1))) ((xf_make σ t f).2) := by
  refine zM_of (lv0 := [(0, .ref (xa0 lo 0)), (1, .int t), (2, .int f)]) (by decide) rfl rfl rfl ?_
  intro p e s m below meth c C hr hnm hsz
  have C : zC p s m ([.ref (xa0 lo 0), .int t, .int f] : List Value).toArray meth c b_SM_make 5 R_SM D dA := C
  refine zz_aload_n C d_SM_make_0 rfl ?_
  refine zz_iload_n C d_SM_make_1 rfl ?_
  refine xc_Vi C (xw_0 Nat.zero_lt_one) rfl s_SM_52 c_SM_isBegun rfl rfl d_SM_make_2 k_SM_isBegun ⟨by decide, by decide⟩ rfl ?_
  refine zz_if_eq (tgt := 17) C d_SM_make_5 (by decide) (fun h5 => ?_) (fun h5 => ?_)
  · refine zz_iconst (x := -1) C d_SM_make_17 rfl ?_
    exact xr_i C hr rfl d_SM_make_18 (by simp only [xf_make, if_pos h5] <;> simp [xf_make, x_fill_1, x_fill_18, z_at]) (by simp only [xf_make, if_pos h5] <;> simp [xf_make, x_fill_1, x_fill_18, z_at])
  · refine zz_iload_n C d_SM_make_8 rfl ?_
    refine zz_if_lt (tgt := 17) C d_SM_make_9 (by decide) (fun h9 => ?_) (fun h9 => ?_)
    · refine zz_iconst (x := -1) C d_SM_make_17 rfl ?_
      exact xr_i C hr rfl d_SM_make_18 (by simp only [xf_make, if_neg h5, if_pos h9] <;> simp [xf_make, x_fill_1, x_fill_18, z_at]) (by simp only [xf_make, if_neg h5, if_pos h9] <;> simp [xf_make, x_fill_1, x_fill_18, z_at])
    · refine zz_iload_n C d_SM_make_12 rfl ?_
      refine zz_iconst (x := 4) C d_SM_make_13 rfl ?_
      refine zz_icmp_le (tgt := 19) C d_SM_make_14 (by decide) (fun h14 => ?_) (fun h14 => ?_)
      · refine zz_aload_n C d_SM_make_19 rfl ?_
        refine zz_get C (ci := 3) (N := 8) 2 rfl zi_SM (by decide) fl_SM_23 (xw_0 Nat.zero_lt_one) rfl d_SM_make_20 ?_
        refine zz_iload_n C d_SM_make_23 rfl ?_
        refine zz_aald C (t0 := 4) rfl (xw_3 Nat.zero_lt_one) (x_begun_thr h5) (fun h9 => if_pos h9) d_SM_make_24 (fun b24 => ?_)
        refine xc_VNi C (xw_9 b24) rfl s_SM_95 (c_Ro_currentArea b24 (x_top_in I b24 (x_begun_len h5))) rfl rfl d_SM_make_25 k_Ro_currentArea ⟨by decide, by decide⟩ rfl ?_
        refine zz_istore_n C d_SM_make_28 (by decide) ?_
        refine zz_aload_n C d_SM_make_29 rfl ?_
        refine xc_Vi C (xw_0 Nat.zero_lt_one) rfl s_SM_108 c_SM_leastFreeNumber rfl rfl d_SM_make_30 k_SM_leastFreeNumber ⟨by decide, by decide⟩ rfl ?_
        refine zz_istore C d_SM_make_33 (by decide) ?_
        refine zz_iload C d_SM_make_35 rfl ?_
        refine zz_iconst (x := -1) C d_SM_make_37 rfl ?_
        refine zz_icmp_eq (tgt := 56) C d_SM_make_38 (by decide) (fun h38 => ?_) (fun h38 => ?_)
        · refine zz_bipush (x := -2) C d_SM_make_56 rfl ?_
          exact xr_i C hr rfl d_SM_make_58 (by simp only [xf_make, if_neg h5, if_neg h9, if_pos h14, if_pos h38] <;> simp [xf_make, x_fill_1, x_fill_18, z_at]) (by simp only [xf_make, if_neg h5, if_neg h9, if_pos h14, if_pos h38] <;> simp [xf_make, x_fill_1, x_fill_18, z_at])
        · refine zz_aload_n C d_SM_make_41 rfl ?_
          refine zz_get C (ci := 3) (N := 8) 0 rfl zi_SM (by decide) fl_SM_11 (xw_0 Nat.zero_lt_one) rfl d_SM_make_42 ?_
          refine zz_iload_n C d_SM_make_45 rfl ?_
          refine zz_aald C (t0 := 2) rfl (xw_1 Nat.zero_lt_one) (I.2.2.2.2.2.2.2.1 _ b24 _ (z_vlt (x_top_in I b24 (x_begun_len h5)))) (fun h9 => if_pos h9) d_SM_make_46 (fun b46 => ?_)
          refine xc_VNi C (xw_6 b46) rfl s_SM_111 (c_Ar_free b46) rfl rfl d_SM_make_47 k_Ar_free ⟨by decide, by decide⟩ rfl ?_
          refine zz_iconst (x := 1) C d_SM_make_50 rfl ?_
          refine zz_iload_n C d_SM_make_51 rfl ?_
          refine zz_iadd C d_SM_make_52 ?_
          refine zz_icmp_ge (tgt := 59) C d_SM_make_53 (by decide) (fun h53 => ?_) (fun h53 => ?_)
          · refine zz_aload_n C d_SM_make_59 rfl ?_
            refine zz_get C (ci := 3) (N := 8) 1 rfl zi_SM (by decide) fl_SM_17 (xw_0 Nat.zero_lt_one) rfl d_SM_make_60 ?_
            refine zz_iload C d_SM_make_63 rfl ?_
            refine zz_aald C (t0 := 3) rfl (xw_2 Nat.zero_lt_one) (x_lf_in h38) (fun h9 => if_pos h9) d_SM_make_65 (fun b65 => ?_)
            refine zz_iload_n C d_SM_make_66 rfl ?_
            refine zz_iload_n C d_SM_make_67 rfl ?_
            refine xc_VNv C (xw_7 b65) rfl s_SM_114 (c_Ce_fill b65) rfl rfl d_SM_make_68 k_Ce_fill ⟨by decide, by decide⟩ rfl ?_
            refine zz_aload_n C d_SM_make_71 rfl ?_
            refine zz_get C (ci := 3) (N := 8) 0 rfl zi_SM (by decide) fl_SM_11 (xw_0 Nat.zero_lt_one) rfl d_SM_make_72 ?_
            refine zz_iload_n C d_SM_make_75 rfl ?_
            refine zz_aald C (t0 := 2) rfl (xw_1 Nat.zero_lt_one) (I.2.2.2.2.2.2.2.1 _ b24 _ (z_vlt (x_top_in I b24 (x_begun_len h5)))) (fun h9 => if_pos h9) d_SM_make_76 (fun b76 => ?_)
            refine zz_dup C d_SM_make_77 rfl ?_
            refine zz_getN C (ci := 0) (N := 5) 1 rfl zi_Ar (by decide) fn_SM_118 (xw_6 b76) rfl d_SM_make_78 ?_
            refine zz_iconst (x := 1) C d_SM_make_81 rfl ?_
            refine zz_iload_n C d_SM_make_82 rfl ?_
            refine zz_iadd C d_SM_make_83 ?_
            refine zz_iadd C d_SM_make_84 ?_
            refine xpN_1 C fn_SM_118 b76 rfl rfl d_SM_make_85 ?_
            refine zz_aload_n C d_SM_make_88 rfl ?_
            refine zz_dup C d_SM_make_89 rfl ?_
            refine zz_get C (ci := 3) (N := 8) 7 rfl zi_SM (by decide) fl_SM_121 (xw_0 Nat.zero_lt_one) rfl d_SM_make_90 ?_
            refine zz_iconst (x := 1) C d_SM_make_93 rfl ?_
            refine zz_iadd C d_SM_make_94 ?_
            refine xp_18 C fl_SM_121 Nat.zero_lt_one rfl rfl d_SM_make_95 ?_
            refine zz_iload C d_SM_make_98 rfl ?_
            exact xr_i C hr rfl d_SM_make_100 (by simp only [xf_make, if_neg h5, if_neg h9, if_pos h14, if_neg h38, if_pos h53] <;> simp [xf_make, x_fill_1, x_fill_18, z_at]) (by simp only [xf_make, if_neg h5, if_neg h9, if_pos h14, if_neg h38, if_pos h53] <;> simp [xf_make, x_fill_1, x_fill_18, z_at])
          · refine zz_bipush (x := -2) C d_SM_make_56 rfl ?_
            exact xr_i C hr rfl d_SM_make_58 (by simp only [xf_make, if_neg h5, if_neg h9, if_pos h14, if_neg h38, if_neg h53] <;> simp [xf_make, x_fill_1, x_fill_18, z_at]) (by simp only [xf_make, if_neg h5, if_neg h9, if_pos h14, if_neg h38, if_neg h53] <;> simp [xf_make, x_fill_1, x_fill_18, z_at])
      · refine zz_iconst (x := -1) C d_SM_make_17 rfl ?_
        exact xr_i C hr rfl d_SM_make_18 (by simp only [xf_make, if_neg h5, if_neg h9, if_neg h14] <;> simp [xf_make, x_fill_1, x_fill_18, z_at]) (by simp only [xf_make, if_neg h5, if_neg h9, if_neg h14] <;> simp [xf_make, x_fill_1, x_fill_18, z_at])
set_option maxHeartbeats 400000 in
set_option maxRecDepth 100000 in
theorem c_SM_put {l : Launch} {D : va_G} {dA : Nat → ClassId} {lo n : Nat} {σ : zS} {t o f g : Int32} (I : xI σ) : xM l y_SM_put b_SM_put 5 (some .int) 5 D dA lo n [.ref (xa0 lo 0), .int t, .int o, .int f, .int g] σ (some (.int ((xf_put σ t o f g).1))) ((xf_put σ t o f g).2) := by
  refine zM_of (lv0 := [(0, .ref (xa0 lo 0)), (1, .int t), (2, .int o), (3, .int f), (4, .int g)]) (by decide) rfl rfl rfl ?_
  intro p e s m below meth c C hr hnm hsz
  have C : zC p s m ([.ref (xa0 lo 0), .int t, .int o, .int f, .int g] : List Value).toArray meth c b_SM_put 5 R_SM D dA := C
  refine zz_aload_n C d_SM_put_0 rfl ?_
  refine zz_iload_n C d_SM_put_1 rfl ?_
  refine xc_Vi C (xw_0 Nat.zero_lt_one) rfl s_SM_52 c_SM_isBegun rfl rfl d_SM_put_2 k_SM_isBegun ⟨by decide, by decide⟩ rfl ?_
  refine zz_if_eq (tgt := 26) C d_SM_put_5 (by decide) (fun h5 => ?_) (fun h5 => ?_)
  · refine zz_iconst (x := -1) C d_SM_put_26 rfl ?_
    exact xr_i C hr rfl d_SM_put_27 (by simp only [xf_put, if_pos h5] <;> simp [xf_put, z_at]) (by simp only [xf_put, if_pos h5] <;> simp [xf_put, z_at])
  · refine zz_aload_n C d_SM_put_8 rfl ?_
    refine zz_iload_n C d_SM_put_9 rfl ?_
    refine zz_iload_n C d_SM_put_10 rfl ?_
    refine xc_Vi C (xw_0 Nat.zero_lt_one) rfl s_SM_124 c_SM_hasField rfl rfl d_SM_put_11 k_SM_hasField ⟨by decide, by decide⟩ rfl ?_
    refine zz_if_eq (tgt := 26) C d_SM_put_14 (by decide) (fun h14 => ?_) (fun h14 => ?_)
    · refine zz_iconst (x := -1) C d_SM_put_26 rfl ?_
      exact xr_i C hr rfl d_SM_put_27 (by simp only [xf_put, if_neg h5, if_pos h14] <;> simp [xf_put, z_at]) (by simp only [xf_put, if_neg h5, if_pos h14] <;> simp [xf_put, z_at])
    · refine zz_aload_n C d_SM_put_17 rfl ?_
      refine zz_iload C d_SM_put_18 rfl ?_
      refine xc_Vi C (xw_0 Nat.zero_lt_one) rfl s_SM_128 c_SM_isObjectOrNull rfl rfl d_SM_put_20 k_SM_isObjectOrNull ⟨by decide, by decide⟩ rfl ?_
      refine zz_if_ne (tgt := 28) C d_SM_put_23 (by decide) (fun h23 => ?_) (fun h23 => ?_)
      · refine zz_aload_n C d_SM_put_28 rfl ?_
        refine zz_iload_n C d_SM_put_29 rfl ?_
        refine zz_iload_n C d_SM_put_30 rfl ?_
        refine xc_Vi C (xw_0 Nat.zero_lt_one) rfl s_SM_131 (c_SM_sees I (x_begun_thr h5) (x_obj (x_hasF h14))) rfl rfl d_SM_put_31 k_SM_sees ⟨by decide, by decide⟩ rfl ?_
        refine zz_if_eq (tgt := 47) C d_SM_put_34 (by decide) (fun h34 => ?_) (fun h34 => ?_)
        · refine zz_bipush (x := -4) C d_SM_put_47 rfl ?_
          exact xr_i C hr rfl d_SM_put_49 (by simp only [xf_put, if_neg h5, if_neg h14, if_neg h23, if_pos h34] <;> simp [xf_put, z_at]) (by simp only [xf_put, if_neg h5, if_neg h14, if_neg h23, if_pos h34] <;> simp [xf_put, z_at])
        · refine zz_aload_n C d_SM_put_37 rfl ?_
          refine zz_iload_n C d_SM_put_38 rfl ?_
          refine zz_iload C d_SM_put_39 rfl ?_
          refine xc_Vi C (xw_0 Nat.zero_lt_one) rfl s_SM_134 (c_SM_seesOrNull I (x_begun_thr h5) (x_objN h23)) rfl rfl d_SM_put_41 k_SM_seesOrNull ⟨by decide, by decide⟩ rfl ?_
          refine zz_if_ne (tgt := 50) C d_SM_put_44 (by decide) (fun h44 => ?_) (fun h44 => ?_)
          · refine zz_iload C d_SM_put_50 rfl ?_
            refine zz_iconst (x := -1) C d_SM_put_52 rfl ?_
            refine zz_icmp_eq (tgt := 77) C d_SM_put_53 (by decide) (fun h53 => ?_) (fun h53 => ?_)
            · refine zz_aload_n C d_SM_put_77 rfl ?_
              refine zz_get C (ci := 3) (N := 8) 1 rfl zi_SM (by decide) fl_SM_17 (xw_0 Nat.zero_lt_one) rfl d_SM_put_78 ?_
              refine zz_iload_n C d_SM_put_81 rfl ?_
              refine zz_aald C (t0 := 3) rfl (xw_2 Nat.zero_lt_one) (x_obj (x_hasF h14)) (fun h9 => if_pos h9) d_SM_put_82 (fun b82 => ?_)
              refine zz_getN C (ci := 1) (N := 4) 0 rfl zi_Ce (by decide) fn_SM_143 (xw_7 b82) rfl d_SM_put_83 ?_
              refine zz_iload_n C d_SM_put_86 rfl ?_
              refine zz_iload C d_SM_put_87 rfl ?_
              refine xs_5 C b82 (x_hasF_f I h14) d_SM_put_89 ?_
              refine zz_iconst (x := 0) C d_SM_put_90 rfl ?_
              exact xr_i C hr rfl d_SM_put_91 (by simp only [xf_put, if_neg h5, if_neg h14, if_neg h23, if_neg h34, if_neg h44, if_pos h53] <;> simp [xf_put, z_at]) (by simp only [xf_put, if_neg h5, if_neg h14, if_neg h23, if_neg h34, if_neg h44, if_pos h53] <;> simp [xf_put, z_at])
            · refine zz_aload_n C d_SM_put_56 rfl ?_
              refine zz_aload_n C d_SM_put_57 rfl ?_
              refine zz_get C (ci := 3) (N := 8) 1 rfl zi_SM (by decide) fl_SM_17 (xw_0 Nat.zero_lt_one) rfl d_SM_put_58 ?_
              refine zz_iload_n C d_SM_put_61 rfl ?_
              refine zz_aald C (t0 := 3) rfl (xw_2 Nat.zero_lt_one) (x_obj (x_hasF h14)) (fun h9 => if_pos h9) d_SM_put_62 (fun b62 => ?_)
              refine zz_getN C (ci := 1) (N := 4) 1 rfl zi_Ce (by decide) fn_SM_137 (xw_7 b62) rfl d_SM_put_63 ?_
              refine zz_iload C d_SM_put_66 rfl ?_
              refine xc_Vi C (xw_0 Nat.zero_lt_one) rfl s_SM_140 (c_SM_mayPointTo I (z_ovin (x_objN h23) h53)) rfl rfl d_SM_put_68 k_SM_mayPointTo ⟨by decide, by decide⟩ rfl ?_
              refine zz_if_ne (tgt := 77) C d_SM_put_71 (by decide) (fun h71 => ?_) (fun h71 => ?_)
              · refine zz_aload_n C d_SM_put_77 rfl ?_
                refine zz_get C (ci := 3) (N := 8) 1 rfl zi_SM (by decide) fl_SM_17 (xw_0 Nat.zero_lt_one) rfl d_SM_put_78 ?_
                refine zz_iload_n C d_SM_put_81 rfl ?_
                refine zz_aald C (t0 := 3) rfl (xw_2 Nat.zero_lt_one) (x_obj (x_hasF h14)) (fun h9 => if_pos h9) d_SM_put_82 (fun b82 => ?_)
                refine zz_getN C (ci := 1) (N := 4) 0 rfl zi_Ce (by decide) fn_SM_143 (xw_7 b82) rfl d_SM_put_83 ?_
                refine zz_iload_n C d_SM_put_86 rfl ?_
                refine zz_iload C d_SM_put_87 rfl ?_
                refine xs_5 C b82 (x_hasF_f I h14) d_SM_put_89 ?_
                refine zz_iconst (x := 0) C d_SM_put_90 rfl ?_
                exact xr_i C hr rfl d_SM_put_91 (by simp only [xf_put, if_neg h5, if_neg h14, if_neg h23, if_neg h34, if_neg h44, if_neg h53, if_neg h71] <;> simp [xf_put, z_at]) (by simp only [xf_put, if_neg h5, if_neg h14, if_neg h23, if_neg h34, if_neg h44, if_neg h53, if_neg h71] <;> simp [xf_put, z_at])
              · refine zz_bipush (x := -5) C d_SM_put_74 rfl ?_
                exact xr_i C hr rfl d_SM_put_76 (by simp only [xf_put, if_neg h5, if_neg h14, if_neg h23, if_neg h34, if_neg h44, if_neg h53, if_pos h71] <;> simp [xf_put, z_at]) (by simp only [xf_put, if_neg h5, if_neg h14, if_neg h23, if_neg h34, if_neg h44, if_neg h53, if_pos h71] <;> simp [xf_put, z_at])
          · refine zz_bipush (x := -4) C d_SM_put_47 rfl ?_
            exact xr_i C hr rfl d_SM_put_49 (by simp only [xf_put, if_neg h5, if_neg h14, if_neg h23, if_neg h34, if_pos h44] <;> simp [xf_put, z_at]) (by simp only [xf_put, if_neg h5, if_neg h14, if_neg h23, if_neg h34, if_pos h44] <;> simp [xf_put, z_at])
      · refine zz_iconst (x := -1) C d_SM_put_26 rfl ?_
        exact xr_i C hr rfl d_SM_put_27 (by simp only [xf_put, if_neg h5, if_neg h14, if_pos h23] <;> simp [xf_put, z_at]) (by simp only [xf_put, if_neg h5, if_neg h14, if_pos h23] <;> simp [xf_put, z_at])
set_option maxHeartbeats 400000 in
set_option maxRecDepth 100000 in
theorem c_SM_get {l : Launch} {D : va_G} {dA : Nat → ClassId} {lo n : Nat} {σ : zS} {t o f : Int32} (I : xI σ) : xM l y_SM_get b_SM_get 5 (some .int) 4 D dA lo n [.ref (xa0 lo 0), .int t, .int o, .int f] σ (some (.int (xf_get σ t o f))) σ := by
  refine zM_of (lv0 := [(0, .ref (xa0 lo 0)), (1, .int t), (2, .int o), (3, .int f)]) (by decide) rfl rfl rfl ?_
  intro p e s m below meth c C hr hnm hsz
  have C : zC p s m ([.ref (xa0 lo 0), .int t, .int o, .int f] : List Value).toArray meth c b_SM_get 5 R_SM D dA := C
  refine zz_aload_n C d_SM_get_0 rfl ?_
  refine zz_iload_n C d_SM_get_1 rfl ?_
  refine xc_Vi C (xw_0 Nat.zero_lt_one) rfl s_SM_52 c_SM_isBegun rfl rfl d_SM_get_2 k_SM_isBegun ⟨by decide, by decide⟩ rfl ?_
  refine zz_if_eq (tgt := 17) C d_SM_get_5 (by decide) (fun h5 => ?_) (fun h5 => ?_)
  · refine zz_iconst (x := -1) C d_SM_get_17 rfl ?_
    exact xr_i C hr rfl d_SM_get_18 (by simp only [xf_get, if_pos h5] <;> simp [xf_get, z_at]) rfl
  · refine zz_aload_n C d_SM_get_8 rfl ?_
    refine zz_iload_n C d_SM_get_9 rfl ?_
    refine zz_iload_n C d_SM_get_10 rfl ?_
    refine xc_Vi C (xw_0 Nat.zero_lt_one) rfl s_SM_124 c_SM_hasField rfl rfl d_SM_get_11 k_SM_hasField ⟨by decide, by decide⟩ rfl ?_
    refine zz_if_ne (tgt := 19) C d_SM_get_14 (by decide) (fun h14 => ?_) (fun h14 => ?_)
    · refine zz_aload_n C d_SM_get_19 rfl ?_
      refine zz_iload_n C d_SM_get_20 rfl ?_
      refine zz_iload_n C d_SM_get_21 rfl ?_
      refine xc_Vi C (xw_0 Nat.zero_lt_one) rfl s_SM_131 (c_SM_sees I (x_begun_thr h5) (x_obj (x_hasF h14))) rfl rfl d_SM_get_22 k_SM_sees ⟨by decide, by decide⟩ rfl ?_
      refine zz_if_ne (tgt := 31) C d_SM_get_25 (by decide) (fun h25 => ?_) (fun h25 => ?_)
      · refine zz_aload_n C d_SM_get_31 rfl ?_
        refine zz_get C (ci := 3) (N := 8) 1 rfl zi_SM (by decide) fl_SM_17 (xw_0 Nat.zero_lt_one) rfl d_SM_get_32 ?_
        refine zz_iload_n C d_SM_get_35 rfl ?_
        refine zz_aald C (t0 := 3) rfl (xw_2 Nat.zero_lt_one) (x_obj (x_hasF h14)) (fun h9 => if_pos h9) d_SM_get_36 (fun b36 => ?_)
        refine zz_getN C (ci := 1) (N := 4) 0 rfl zi_Ce (by decide) fn_SM_143 (xw_7 b36) rfl d_SM_get_37 ?_
        refine zz_iload_n C d_SM_get_40 rfl ?_
        refine zz_iald C (t0 := 0) rfl (xw_8 b36) (x_hasF_f I h14) d_SM_get_41 ?_
        refine zz_istore C d_SM_get_42 (by decide) ?_
        refine zz_iload C d_SM_get_44 rfl ?_
        refine zz_iconst (x := -1) C d_SM_get_46 rfl ?_
        refine zz_icmp_ne (tgt := 53) C d_SM_get_47 (by decide) (fun h47 => ?_) (fun h47 => ?_)
        · refine zz_aload_n C d_SM_get_53 rfl ?_
          refine zz_iload_n C d_SM_get_54 rfl ?_
          refine zz_iload C d_SM_get_55 rfl ?_
          refine xc_Vi C (xw_0 Nat.zero_lt_one) rfl s_SM_131 (c_SM_sees I (x_begun_thr h5) (z_ovin (I.2.2.2.2.1 _ b36 _ (z_vlt (x_hasF_f I h14))) h47)) rfl rfl d_SM_get_57 k_SM_sees ⟨by decide, by decide⟩ rfl ?_
          refine zz_if_eq (tgt := 68) C d_SM_get_60 (by decide) (fun h60 => ?_) (fun h60 => ?_)
          · refine zz_bipush (x := -4) C d_SM_get_68 rfl ?_
            exact xr_i C hr rfl d_SM_get_70 (by simp only [xf_get, if_neg h5, if_neg h14, if_neg h25, if_neg h47, if_pos h60] <;> simp [xf_get, z_at]) rfl
          · refine zz_iload C d_SM_get_63 rfl ?_
            refine zz_goto (tgt := 70) C d_SM_get_65 (by decide) ?_
            exact xr_i C hr rfl d_SM_get_70 (by simp only [xf_get, if_neg h5, if_neg h14, if_neg h25, if_neg h47, if_neg h60] <;> simp [xf_get, z_at]) rfl
        · refine zz_bipush (x := -6) C d_SM_get_50 rfl ?_
          exact xr_i C hr rfl d_SM_get_52 (by simp only [xf_get, if_neg h5, if_neg h14, if_neg h25, if_pos h47] <;> simp [xf_get, z_at]) rfl
      · refine zz_bipush (x := -4) C d_SM_get_28 rfl ?_
        exact xr_i C hr rfl d_SM_get_30 (by simp only [xf_get, if_neg h5, if_neg h14, if_pos h25] <;> simp [xf_get, z_at]) rfl
    · refine zz_iconst (x := -1) C d_SM_get_17 rfl ?_
      exact xr_i C hr rfl d_SM_get_18 (by simp only [xf_get, if_neg h5, if_pos h14] <;> simp [xf_get, z_at]) rfl
set_option maxHeartbeats 400000 in
set_option maxRecDepth 100000 in
theorem c_SM_hang {l : Launch} {D : va_G} {dA : Nat → ClassId} {lo n : Nat} {σ : zS} {t z o : Int32} (I : xI σ) : xM l y_SM_hang b_SM_hang 4 (some .int) 5 D dA lo n [.ref (xa0 lo 0), .int t, .int z, .int o] σ (some (.int ((xf_hang σ t z o).1))) ((xf_hang σ t z o).2) := by
  refine zM_of (lv0 := [(0, .ref (xa0 lo 0)), (1, .int t), (2, .int z), (3, .int o)]) (by decide) rfl rfl rfl ?_
  intro p e s m below meth c C hr hnm hsz
  have C : zC p s m ([.ref (xa0 lo 0), .int t, .int z, .int o] : List Value).toArray meth c b_SM_hang 4 R_SM D dA := C
  refine zz_aload_n C d_SM_hang_0 rfl ?_
  refine zz_iload_n C d_SM_hang_1 rfl ?_
  refine xc_Vi C (xw_0 Nat.zero_lt_one) rfl s_SM_52 c_SM_isBegun rfl rfl d_SM_hang_2 k_SM_isBegun ⟨by decide, by decide⟩ rfl ?_
  refine zz_if_eq (tgt := 24) C d_SM_hang_5 (by decide) (fun h5 => ?_) (fun h5 => ?_)
  · refine zz_iconst (x := -1) C d_SM_hang_24 rfl ?_
    exact xr_i C hr rfl d_SM_hang_25 (by simp only [xf_hang, if_pos h5] <;> simp [xf_hang, z_at]) (by simp only [xf_hang, if_pos h5] <;> simp [xf_hang, z_at])
  · refine zz_aload_n C d_SM_hang_8 rfl ?_
    refine zz_iload_n C d_SM_hang_9 rfl ?_
    refine xc_Vi C (xw_0 Nat.zero_lt_one) rfl s_SM_63 c_SM_isScope rfl rfl d_SM_hang_10 k_SM_isScope ⟨by decide, by decide⟩ rfl ?_
    refine zz_if_eq (tgt := 24) C d_SM_hang_13 (by decide) (fun h13 => ?_) (fun h13 => ?_)
    · refine zz_iconst (x := -1) C d_SM_hang_24 rfl ?_
      exact xr_i C hr rfl d_SM_hang_25 (by simp only [xf_hang, if_neg h5, if_pos h13] <;> simp [xf_hang, z_at]) (by simp only [xf_hang, if_neg h5, if_pos h13] <;> simp [xf_hang, z_at])
    · refine zz_aload_n C d_SM_hang_16 rfl ?_
      refine zz_iload_n C d_SM_hang_17 rfl ?_
      refine xc_Vi C (xw_0 Nat.zero_lt_one) rfl s_SM_128 c_SM_isObjectOrNull rfl rfl d_SM_hang_18 k_SM_isObjectOrNull ⟨by decide, by decide⟩ rfl ?_
      refine zz_if_ne (tgt := 26) C d_SM_hang_21 (by decide) (fun h21 => ?_) (fun h21 => ?_)
      · refine zz_aload_n C d_SM_hang_26 rfl ?_
        refine zz_get C (ci := 3) (N := 8) 2 rfl zi_SM (by decide) fl_SM_23 (xw_0 Nat.zero_lt_one) rfl d_SM_hang_27 ?_
        refine zz_iload_n C d_SM_hang_30 rfl ?_
        refine zz_aald C (t0 := 4) rfl (xw_3 Nat.zero_lt_one) (x_begun_thr h5) (fun h9 => if_pos h9) d_SM_hang_31 (fun b31 => ?_)
        refine zz_iload_n C d_SM_hang_32 rfl ?_
        refine xc_VNi C (xw_9 b31) rfl s_SM_70 (c_Ro_hasInView b31 I) rfl rfl d_SM_hang_33 k_Ro_hasInView ⟨by decide, by decide⟩ rfl ?_
        refine zz_if_eq (tgt := 48) C d_SM_hang_36 (by decide) (fun h36 => ?_) (fun h36 => ?_)
        · refine zz_bipush (x := -4) C d_SM_hang_48 rfl ?_
          exact xr_i C hr rfl d_SM_hang_50 (by simp only [xf_hang, if_neg h5, if_neg h13, if_neg h21, if_pos h36] <;> simp [xf_hang, z_at]) (by simp only [xf_hang, if_neg h5, if_neg h13, if_neg h21, if_pos h36] <;> simp [xf_hang, z_at])
        · refine zz_aload_n C d_SM_hang_39 rfl ?_
          refine zz_iload_n C d_SM_hang_40 rfl ?_
          refine zz_iload_n C d_SM_hang_41 rfl ?_
          refine xc_Vi C (xw_0 Nat.zero_lt_one) rfl s_SM_134 (c_SM_seesOrNull I (x_begun_thr h5) (x_objN h21)) rfl rfl d_SM_hang_42 k_SM_seesOrNull ⟨by decide, by decide⟩ rfl ?_
          refine zz_if_ne (tgt := 51) C d_SM_hang_45 (by decide) (fun h45 => ?_) (fun h45 => ?_)
          · refine zz_iload_n C d_SM_hang_51 rfl ?_
            refine zz_iconst (x := -1) C d_SM_hang_52 rfl ?_
            refine zz_icmp_eq (tgt := 72) C d_SM_hang_53 (by decide) (fun h53 => ?_) (fun h53 => ?_)
            · refine zz_aload_n C d_SM_hang_72 rfl ?_
              refine zz_get C (ci := 3) (N := 8) 0 rfl zi_SM (by decide) fl_SM_11 (xw_0 Nat.zero_lt_one) rfl d_SM_hang_73 ?_
              refine zz_iload_n C d_SM_hang_76 rfl ?_
              refine zz_aald C (t0 := 2) rfl (xw_1 Nat.zero_lt_one) (x_scope_in I h13) (fun h9 => if_pos h9) d_SM_hang_77 (fun b77 => ?_)
              refine zz_iload_n C d_SM_hang_78 rfl ?_
              refine xpN_4 C fn_SM_146 b77 rfl rfl d_SM_hang_79 ?_
              refine zz_iconst (x := 0) C d_SM_hang_82 rfl ?_
              exact xr_i C hr rfl d_SM_hang_83 (by simp only [xf_hang, if_neg h5, if_neg h13, if_neg h21, if_neg h36, if_neg h45, if_pos h53] <;> simp [xf_hang, z_at]) (by simp only [xf_hang, if_neg h5, if_neg h13, if_neg h21, if_neg h36, if_neg h45, if_pos h53] <;> simp [xf_hang, z_at])
            · refine zz_aload_n C d_SM_hang_56 rfl ?_
              refine zz_get C (ci := 3) (N := 8) 1 rfl zi_SM (by decide) fl_SM_17 (xw_0 Nat.zero_lt_one) rfl d_SM_hang_57 ?_
              refine zz_iload_n C d_SM_hang_60 rfl ?_
              refine zz_aald C (t0 := 3) rfl (xw_2 Nat.zero_lt_one) (z_ovin (x_objN h21) h53) (fun h9 => if_pos h9) d_SM_hang_61 (fun b61 => ?_)
              refine zz_getN C (ci := 1) (N := 4) 1 rfl zi_Ce (by decide) fn_SM_137 (xw_7 b61) rfl d_SM_hang_62 ?_
              refine zz_iload_n C d_SM_hang_65 rfl ?_
              refine zz_icmp_eq (tgt := 72) C d_SM_hang_66 (by decide) (fun h66 => ?_) (fun h66 => ?_)
              · refine zz_aload_n C d_SM_hang_72 rfl ?_
                refine zz_get C (ci := 3) (N := 8) 0 rfl zi_SM (by decide) fl_SM_11 (xw_0 Nat.zero_lt_one) rfl d_SM_hang_73 ?_
                refine zz_iload_n C d_SM_hang_76 rfl ?_
                refine zz_aald C (t0 := 2) rfl (xw_1 Nat.zero_lt_one) (x_scope_in I h13) (fun h9 => if_pos h9) d_SM_hang_77 (fun b77 => ?_)
                refine zz_iload_n C d_SM_hang_78 rfl ?_
                refine xpN_4 C fn_SM_146 b77 rfl rfl d_SM_hang_79 ?_
                refine zz_iconst (x := 0) C d_SM_hang_82 rfl ?_
                exact xr_i C hr rfl d_SM_hang_83 (by simp only [xf_hang, if_neg h5, if_neg h13, if_neg h21, if_neg h36, if_neg h45, if_neg h53, if_pos h66] <;> simp [xf_hang, z_at]) (by simp only [xf_hang, if_neg h5, if_neg h13, if_neg h21, if_neg h36, if_neg h45, if_neg h53, if_pos h66] <;> simp [xf_hang, z_at])
              · refine zz_bipush (x := -5) C d_SM_hang_69 rfl ?_
                exact xr_i C hr rfl d_SM_hang_71 (by simp only [xf_hang, if_neg h5, if_neg h13, if_neg h21, if_neg h36, if_neg h45, if_neg h53, if_neg h66] <;> simp [xf_hang, z_at]) (by simp only [xf_hang, if_neg h5, if_neg h13, if_neg h21, if_neg h36, if_neg h45, if_neg h53, if_neg h66] <;> simp [xf_hang, z_at])
          · refine zz_bipush (x := -4) C d_SM_hang_48 rfl ?_
            exact xr_i C hr rfl d_SM_hang_50 (by simp only [xf_hang, if_neg h5, if_neg h13, if_neg h21, if_neg h36, if_pos h45] <;> simp [xf_hang, z_at]) (by simp only [xf_hang, if_neg h5, if_neg h13, if_neg h21, if_neg h36, if_pos h45] <;> simp [xf_hang, z_at])
      · refine zz_iconst (x := -1) C d_SM_hang_24 rfl ?_
        exact xr_i C hr rfl d_SM_hang_25 (by simp only [xf_hang, if_neg h5, if_neg h13, if_pos h21] <;> simp [xf_hang, z_at]) (by simp only [xf_hang, if_neg h5, if_neg h13, if_pos h21] <;> simp [xf_hang, z_at])
set_option maxHeartbeats 400000 in
set_option maxRecDepth 100000 in
theorem c_SM_portal {l : Launch} {D : va_G} {dA : Nat → ClassId} {lo n : Nat} {σ : zS} {t z : Int32} (I : xI σ) : xM l y_SM_portal b_SM_portal 3 (some .int) 3 D dA lo n [.ref (xa0 lo 0), .int t, .int z] σ (some (.int (xf_portal σ t z))) σ := by
  refine zM_of (lv0 := [(0, .ref (xa0 lo 0)), (1, .int t), (2, .int z)]) (by decide) rfl rfl rfl ?_
  intro p e s m below meth c C hr hnm hsz
  have C : zC p s m ([.ref (xa0 lo 0), .int t, .int z] : List Value).toArray meth c b_SM_portal 3 R_SM D dA := C
  refine zz_aload_n C d_SM_portal_0 rfl ?_
  refine zz_iload_n C d_SM_portal_1 rfl ?_
  refine xc_Vi C (xw_0 Nat.zero_lt_one) rfl s_SM_52 c_SM_isBegun rfl rfl d_SM_portal_2 k_SM_isBegun ⟨by decide, by decide⟩ rfl ?_
  refine zz_if_eq (tgt := 16) C d_SM_portal_5 (by decide) (fun h5 => ?_) (fun h5 => ?_)
  · refine zz_iconst (x := -1) C d_SM_portal_16 rfl ?_
    exact xr_i C hr rfl d_SM_portal_17 (by simp only [xf_portal, if_pos h5] <;> simp [xf_portal, z_at]) rfl
  · refine zz_aload_n C d_SM_portal_8 rfl ?_
    refine zz_iload_n C d_SM_portal_9 rfl ?_
    refine xc_Vi C (xw_0 Nat.zero_lt_one) rfl s_SM_63 c_SM_isScope rfl rfl d_SM_portal_10 k_SM_isScope ⟨by decide, by decide⟩ rfl ?_
    refine zz_if_ne (tgt := 18) C d_SM_portal_13 (by decide) (fun h13 => ?_) (fun h13 => ?_)
    · refine zz_aload_n C d_SM_portal_18 rfl ?_
      refine zz_get C (ci := 3) (N := 8) 2 rfl zi_SM (by decide) fl_SM_23 (xw_0 Nat.zero_lt_one) rfl d_SM_portal_19 ?_
      refine zz_iload_n C d_SM_portal_22 rfl ?_
      refine zz_aald C (t0 := 4) rfl (xw_3 Nat.zero_lt_one) (x_begun_thr h5) (fun h9 => if_pos h9) d_SM_portal_23 (fun b23 => ?_)
      refine zz_iload_n C d_SM_portal_24 rfl ?_
      refine xc_VNi C (xw_9 b23) rfl s_SM_70 (c_Ro_hasInView b23 I) rfl rfl d_SM_portal_25 k_Ro_hasInView ⟨by decide, by decide⟩ rfl ?_
      refine zz_if_ne (tgt := 34) C d_SM_portal_28 (by decide) (fun h28 => ?_) (fun h28 => ?_)
      · refine zz_aload_n C d_SM_portal_34 rfl ?_
        refine zz_get C (ci := 3) (N := 8) 0 rfl zi_SM (by decide) fl_SM_11 (xw_0 Nat.zero_lt_one) rfl d_SM_portal_35 ?_
        refine zz_iload_n C d_SM_portal_38 rfl ?_
        refine zz_aald C (t0 := 2) rfl (xw_1 Nat.zero_lt_one) (x_scope_in I h13) (fun h9 => if_pos h9) d_SM_portal_39 (fun b39 => ?_)
        refine zz_getN C (ci := 0) (N := 5) 4 rfl zi_Ar (by decide) fn_SM_146 (xw_6 b39) rfl d_SM_portal_40 ?_
        refine xc_Si C s_SM_149 c_SM_objectOrNull rfl rfl d_SM_portal_43 k_SM_objectOrNull ⟨by decide, by decide⟩ rfl ?_
        exact xr_i C hr rfl d_SM_portal_46 (by simp only [xf_portal, if_neg h5, if_neg h13, if_neg h28] <;> simp [xf_portal, z_at]) rfl
      · refine zz_bipush (x := -4) C d_SM_portal_31 rfl ?_
        exact xr_i C hr rfl d_SM_portal_33 (by simp only [xf_portal, if_neg h5, if_neg h13, if_pos h28] <;> simp [xf_portal, z_at]) rfl
    · refine zz_iconst (x := -1) C d_SM_portal_16 rfl ?_
      exact xr_i C hr rfl d_SM_portal_17 (by simp only [xf_portal, if_neg h5, if_pos h13] <;> simp [xf_portal, z_at]) rfl
set_option maxHeartbeats 400000 in
set_option maxRecDepth 100000 in
theorem c_SM_assign {l : Launch} {D : va_G} {dA : Nat → ClassId} {lo n : Nat} {σ : zS} {t k o : Int32} (I : xI σ) : xM l y_SM_assign b_SM_assign 4 (some .int) 5 D dA lo n [.ref (xa0 lo 0), .int t, .int k, .int o] σ (some (.int ((xf_assign σ t k o).1))) ((xf_assign σ t k o).2) := by
  refine zM_of (lv0 := [(0, .ref (xa0 lo 0)), (1, .int t), (2, .int k), (3, .int o)]) (by decide) rfl rfl rfl ?_
  intro p e s m below meth c C hr hnm hsz
  have C : zC p s m ([.ref (xa0 lo 0), .int t, .int k, .int o] : List Value).toArray meth c b_SM_assign 4 R_SM D dA := C
  refine zz_aload_n C d_SM_assign_0 rfl ?_
  refine zz_iload_n C d_SM_assign_1 rfl ?_
  refine xc_Vi C (xw_0 Nat.zero_lt_one) rfl s_SM_52 c_SM_isBegun rfl rfl d_SM_assign_2 k_SM_isBegun ⟨by decide, by decide⟩ rfl ?_
  refine zz_if_eq (tgt := 25) C d_SM_assign_5 (by decide) (fun h5 => ?_) (fun h5 => ?_)
  · refine zz_iconst (x := -1) C d_SM_assign_25 rfl ?_
    exact xr_i C hr rfl d_SM_assign_26 (by simp only [xf_assign, if_pos h5] <;> simp [xf_assign, z_at]) (by simp only [xf_assign, if_pos h5] <;> simp [xf_assign, z_at])
  · refine zz_iload_n C d_SM_assign_8 rfl ?_
    refine zz_if_lt (tgt := 25) C d_SM_assign_9 (by decide) (fun h9 => ?_) (fun h9 => ?_)
    · refine zz_iconst (x := -1) C d_SM_assign_25 rfl ?_
      exact xr_i C hr rfl d_SM_assign_26 (by simp only [xf_assign, if_neg h5, if_pos h9] <;> simp [xf_assign, z_at]) (by simp only [xf_assign, if_neg h5, if_pos h9] <;> simp [xf_assign, z_at])
    · refine zz_iload_n C d_SM_assign_12 rfl ?_
      refine zz_iconst (x := 4) C d_SM_assign_13 rfl ?_
      refine zz_icmp_ge (tgt := 25) C d_SM_assign_14 (by decide) (fun h14 => ?_) (fun h14 => ?_)
      · refine zz_iconst (x := -1) C d_SM_assign_25 rfl ?_
        exact xr_i C hr rfl d_SM_assign_26 (by simp only [xf_assign, if_neg h5, if_neg h9, if_pos h14] <;> simp [xf_assign, z_at]) (by simp only [xf_assign, if_neg h5, if_neg h9, if_pos h14] <;> simp [xf_assign, z_at])
      · refine zz_aload_n C d_SM_assign_17 rfl ?_
        refine zz_iload_n C d_SM_assign_18 rfl ?_
        refine xc_Vi C (xw_0 Nat.zero_lt_one) rfl s_SM_128 c_SM_isObjectOrNull rfl rfl d_SM_assign_19 k_SM_isObjectOrNull ⟨by decide, by decide⟩ rfl ?_
        refine zz_if_ne (tgt := 27) C d_SM_assign_22 (by decide) (fun h22 => ?_) (fun h22 => ?_)
        · refine zz_aload_n C d_SM_assign_27 rfl ?_
          refine zz_iload_n C d_SM_assign_28 rfl ?_
          refine zz_iload_n C d_SM_assign_29 rfl ?_
          refine xc_Vi C (xw_0 Nat.zero_lt_one) rfl s_SM_134 (c_SM_seesOrNull I (x_begun_thr h5) (x_objN h22)) rfl rfl d_SM_assign_30 k_SM_seesOrNull ⟨by decide, by decide⟩ rfl ?_
          refine zz_if_ne (tgt := 39) C d_SM_assign_33 (by decide) (fun h33 => ?_) (fun h33 => ?_)
          · refine zz_iload_n C d_SM_assign_39 rfl ?_
            refine zz_iconst (x := -1) C d_SM_assign_40 rfl ?_
            refine zz_icmp_eq (tgt := 63) C d_SM_assign_41 (by decide) (fun h41 => ?_) (fun h41 => ?_)
            · refine zz_aload_n C d_SM_assign_63 rfl ?_
              refine zz_get C (ci := 3) (N := 8) 3 rfl zi_SM (by decide) fl_SM_27 (xw_0 Nat.zero_lt_one) rfl d_SM_assign_64 ?_
              refine zz_iload_n C d_SM_assign_67 rfl ?_
              refine zz_iload_n C d_SM_assign_68 rfl ?_
              refine xs_14 C Nat.zero_lt_one (z_vin h9 h14 rfl) d_SM_assign_69 ?_
              refine zz_iconst (x := 0) C d_SM_assign_70 rfl ?_
              exact xr_i C hr rfl d_SM_assign_71 (by simp only [xf_assign, if_neg h5, if_neg h9, if_neg h14, if_neg h22, if_neg h33, if_pos h41] <;> simp [xf_assign, z_at]) (by simp only [xf_assign, if_neg h5, if_neg h9, if_neg h14, if_neg h22, if_neg h33, if_pos h41] <;> simp [xf_assign, z_at])
            · refine zz_aload_n C d_SM_assign_44 rfl ?_
              refine zz_aload_n C d_SM_assign_45 rfl ?_
              refine zz_get C (ci := 3) (N := 8) 1 rfl zi_SM (by decide) fl_SM_17 (xw_0 Nat.zero_lt_one) rfl d_SM_assign_46 ?_
              refine zz_iload_n C d_SM_assign_49 rfl ?_
              refine zz_aald C (t0 := 3) rfl (xw_2 Nat.zero_lt_one) (z_ovin (x_objN h22) h41) (fun h9 => if_pos h9) d_SM_assign_50 (fun b50 => ?_)
              refine zz_getN C (ci := 1) (N := 4) 1 rfl zi_Ce (by decide) fn_SM_137 (xw_7 b50) rfl d_SM_assign_51 ?_
              refine xc_Vi C (xw_0 Nat.zero_lt_one) rfl s_SM_63 c_SM_isScope rfl rfl d_SM_assign_54 k_SM_isScope ⟨by decide, by decide⟩ rfl ?_
              refine zz_if_eq (tgt := 63) C d_SM_assign_57 (by decide) (fun h57 => ?_) (fun h57 => ?_)
              · refine zz_aload_n C d_SM_assign_63 rfl ?_
                refine zz_get C (ci := 3) (N := 8) 3 rfl zi_SM (by decide) fl_SM_27 (xw_0 Nat.zero_lt_one) rfl d_SM_assign_64 ?_
                refine zz_iload_n C d_SM_assign_67 rfl ?_
                refine zz_iload_n C d_SM_assign_68 rfl ?_
                refine xs_14 C Nat.zero_lt_one (z_vin h9 h14 rfl) d_SM_assign_69 ?_
                refine zz_iconst (x := 0) C d_SM_assign_70 rfl ?_
                exact xr_i C hr rfl d_SM_assign_71 (by simp only [xf_assign, if_neg h5, if_neg h9, if_neg h14, if_neg h22, if_neg h33, if_neg h41, if_pos h57] <;> simp [xf_assign, z_at]) (by simp only [xf_assign, if_neg h5, if_neg h9, if_neg h14, if_neg h22, if_neg h33, if_neg h41, if_pos h57] <;> simp [xf_assign, z_at])
              · refine zz_bipush (x := -5) C d_SM_assign_60 rfl ?_
                exact xr_i C hr rfl d_SM_assign_62 (by simp only [xf_assign, if_neg h5, if_neg h9, if_neg h14, if_neg h22, if_neg h33, if_neg h41, if_neg h57] <;> simp [xf_assign, z_at]) (by simp only [xf_assign, if_neg h5, if_neg h9, if_neg h14, if_neg h22, if_neg h33, if_neg h41, if_neg h57] <;> simp [xf_assign, z_at])
          · refine zz_bipush (x := -4) C d_SM_assign_36 rfl ?_
            exact xr_i C hr rfl d_SM_assign_38 (by simp only [xf_assign, if_neg h5, if_neg h9, if_neg h14, if_neg h22, if_pos h33] <;> simp [xf_assign, z_at]) (by simp only [xf_assign, if_neg h5, if_neg h9, if_neg h14, if_neg h22, if_pos h33] <;> simp [xf_assign, z_at])
        · refine zz_iconst (x := -1) C d_SM_assign_25 rfl ?_
          exact xr_i C hr rfl d_SM_assign_26 (by simp only [xf_assign, if_neg h5, if_neg h9, if_neg h14, if_pos h22] <;> simp [xf_assign, z_at]) (by simp only [xf_assign, if_neg h5, if_neg h9, if_neg h14, if_pos h22] <;> simp [xf_assign, z_at])
set_option maxHeartbeats 400000 in
set_option maxRecDepth 100000 in
theorem c_SM_collect {l : Launch} {D : va_G} {dA : Nat → ClassId} {lo n : Nat} {σ : zS} {r : Int32} {τ : zS} (I : xI σ) (hR : xf_collect σ = (r, τ)) : xM l y_SM_collect b_SM_collect 3 (some .int) 4 D dA lo n [.ref (xa0 lo 0)] σ (some (.int (r))) τ := by
  refine zM_of (lv0 := [(0, .ref (xa0 lo 0))]) (by decide) rfl rfl rfl ?_
  intro p e s m below meth c C hr hnm hsz
  have C : zC p s m ([.ref (xa0 lo 0)] : List Value).toArray meth c b_SM_collect 3 R_SM D dA := C
  unfold xf_collect at hR
  generalize hT : xf_co 40 0 (xf_findKept σ) = T at hR
  generalize hb : (xf_findKept σ) 18 0 0 = b at hR
  simp only [Prod.mk.injEq] at hR
  have loop : ∀ (k i : Nat) (iv : Int32) (σ1 : zS), iv = nI i → i + k = 40 → xf_co k i σ1 = T → xZ p l e 4 s m ([.ref (xa0 lo 0)] : List Value).toArray below meth c D dA lo 3 n (some (.int (r))) (τ) (σ1) 11 [(0, .ref (xa0 lo 0)), (1, .int b), (2, .int iv)] [] := by
    intro k
    induction k with
    | zero =>
      intro i iv σ1 hiv hik hres
      have hres : σ1 = T := hres
      refine zz_iload_n C d_SM_collect_11 rfl ?_
      refine zz_bipush (x := 40) C d_SM_collect_12 rfl ?_
      refine zz_icmp_ge (tgt := 52) C d_SM_collect_14 (by decide) (fun h14 => ?_) (fun h14 => ?_)
      · refine zz_iload_n C d_SM_collect_52 rfl ?_
        refine zz_aload_n C d_SM_collect_53 rfl ?_
        refine zz_get C (ci := 3) (N := 8) 7 rfl zi_SM (by decide) fl_SM_121 (xw_0 Nat.zero_lt_one) rfl d_SM_collect_54 ?_
        refine zz_isub C d_SM_collect_57 ?_
        exact xr_i C hr rfl d_SM_collect_58 (by rw [hres]; exact hR.1) (by rw [hres]; exact hR.2)
      · exact absurd (z_ge (N := 40) hiv rfl (by omega) (by omega)) h14
    | succ k ih =>
      intro i iv σ1 hiv hik hres
      unfold xf_co at hres
      have hix : iv.toNatClampNeg = i := z_ixI hiv (by omega)
      refine zz_iload_n C d_SM_collect_11 rfl ?_
      refine zz_bipush (x := 40) C d_SM_collect_12 rfl ?_
      refine zz_icmp_ge (tgt := 52) C d_SM_collect_14 (by decide) (fun h14 => ?_) (fun h14 => ?_)
      · exact absurd h14 (z_nge hiv rfl (show i < 40 by omega) (by decide))
      · refine zz_aload_n C d_SM_collect_17 rfl ?_
        refine zz_get C (ci := 3) (N := 8) 1 rfl zi_SM (by decide) fl_SM_17 (xw_0 Nat.zero_lt_one) rfl d_SM_collect_18 ?_
        refine zz_iload_n C d_SM_collect_21 rfl ?_
        refine zz_aald C (t0 := 3) rfl (xw_2 Nat.zero_lt_one) (z_vinI hiv (by omega) (by decide)) (fun h9 => if_pos h9) d_SM_collect_22 (fun b22 => ?_)
        refine zz_getN C (ci := 1) (N := 4) 1 rfl zi_Ce (by decide) fn_SM_137 (xw_7 b22) rfl d_SM_collect_23 ?_
        refine zz_if_ne (tgt := 46) C d_SM_collect_26 (by decide) (fun h26 => ?_) (fun h26 => ?_)
        · refine zz_iinc (d' := 1) C d_SM_collect_46 rfl rfl (by decide) ?_
          refine zz_goto (tgt := 11) C d_SM_collect_49 (by decide) ?_
          refine zz_lv [0, 1, 2] rfl ?_
          rw [hix] at h26
          exact ih (i + 1) _ _ (z_sI hiv) (by omega) (by rw [← hres, if_neg h26])
        · refine zz_aload_n C d_SM_collect_29 rfl ?_
          refine zz_get C (ci := 3) (N := 8) 1 rfl zi_SM (by decide) fl_SM_17 (xw_0 Nat.zero_lt_one) rfl d_SM_collect_30 ?_
          refine zz_iload_n C d_SM_collect_33 rfl ?_
          refine zz_aald C (t0 := 3) rfl (xw_2 Nat.zero_lt_one) (z_vinI hiv (by omega) (by decide)) (fun h9 => if_pos h9) d_SM_collect_34 (fun b34 => ?_)
          refine zz_getN C (ci := 1) (N := 4) 3 rfl zi_Ce (by decide) fn_SM_155 (xw_7 b34) rfl d_SM_collect_35 ?_
          refine zz_if_ne (tgt := 46) C d_SM_collect_38 (by decide) (fun h38 => ?_) (fun h38 => ?_)
          · refine zz_iinc (d' := 1) C d_SM_collect_46 rfl rfl (by decide) ?_
            refine zz_goto (tgt := 11) C d_SM_collect_49 (by decide) ?_
            refine zz_lv [0, 1, 2] rfl ?_
            rw [hix] at h26 h38
            exact ih (i + 1) _ _ (z_sI hiv) (by omega) (by rw [← hres, if_pos h26, if_neg h38])
          · refine zz_aload_n C d_SM_collect_41 rfl ?_
            refine zz_iload_n C d_SM_collect_42 rfl ?_
            refine xc_Vv C (xw_0 Nat.zero_lt_one) rfl s_SM_158 (c_SM_drop (z_vinI hiv (by omega) (by decide)) (by rw [h26]; exact vp_in_nI (n := 0) (by decide) (by decide))) rfl rfl d_SM_collect_43 k_SM_drop ⟨by decide, by decide⟩ rfl ?_
            refine zz_iinc (d' := 1) C d_SM_collect_46 rfl rfl (by decide) ?_
            refine zz_goto (tgt := 11) C d_SM_collect_49 (by decide) ?_
            refine zz_lv [0, 1, 2] rfl ?_
            rw [hix] at h26 h38
            exact ih (i + 1) _ _ (z_sI hiv) (by omega) (by rw [← hres, if_pos h26, if_pos h38, hiv])
  refine zz_aload_n C d_SM_collect_0 rfl ?_
  refine xc_Vv C (xw_0 Nat.zero_lt_one) rfl s_SM_152 (c_SM_findKept I) rfl rfl d_SM_collect_1 k_SM_findKept ⟨by decide, by decide⟩ rfl ?_
  refine zz_aload_n C d_SM_collect_4 rfl ?_
  refine zz_get C (ci := 3) (N := 8) 7 rfl zi_SM (by decide) fl_SM_121 (xw_0 Nat.zero_lt_one) rfl d_SM_collect_5 ?_
  refine zz_istore_n C d_SM_collect_8 (by decide) ?_
  refine zz_iconst (x := 0) C d_SM_collect_9 rfl ?_
  refine zz_istore_n C d_SM_collect_10 (by decide) ?_
  refine zz_lv [0, 1, 2] rfl ?_
  rw [hb]
  exact loop 40 0 _ _ nI_0.symm rfl hT
set_option maxHeartbeats 400000 in
set_option maxRecDepth 100000 in
theorem c_SM_areaOf {l : Launch} {D : va_G} {dA : Nat → ClassId} {lo n : Nat} {σ : zS} {o : Int32} : xM l y_SM_areaOf b_SM_areaOf 2 (some .int) 1 D dA lo n [.ref (xa0 lo 0), .int o] σ (some (.int (xf_areaOf σ o))) σ := by
  refine zM_of (lv0 := [(0, .ref (xa0 lo 0)), (1, .int o)]) (by decide) rfl rfl rfl ?_
  intro p e s m below meth c C hr hnm hsz
  have C : zC p s m ([.ref (xa0 lo 0), .int o] : List Value).toArray meth c b_SM_areaOf 2 R_SM D dA := C
  refine zz_aload_n C d_SM_areaOf_0 rfl ?_
  refine zz_iload_n C d_SM_areaOf_1 rfl ?_
  refine xc_Vi C (xw_0 Nat.zero_lt_one) rfl s_SM_161 c_SM_isObject rfl rfl d_SM_areaOf_2 k_SM_isObject ⟨by decide, by decide⟩ rfl ?_
  refine zz_if_eq (tgt := 20) C d_SM_areaOf_5 (by decide) (fun h5 => ?_) (fun h5 => ?_)
  · refine zz_iconst (x := -1) C d_SM_areaOf_20 rfl ?_
    exact xr_i C hr rfl d_SM_areaOf_21 (by simp only [xf_areaOf, if_pos h5] <;> simp [xf_areaOf, z_at]) rfl
  · refine zz_aload_n C d_SM_areaOf_8 rfl ?_
    refine zz_get C (ci := 3) (N := 8) 1 rfl zi_SM (by decide) fl_SM_17 (xw_0 Nat.zero_lt_one) rfl d_SM_areaOf_9 ?_
    refine zz_iload_n C d_SM_areaOf_12 rfl ?_
    refine zz_aald C (t0 := 3) rfl (xw_2 Nat.zero_lt_one) (x_obj h5) (fun h9 => if_pos h9) d_SM_areaOf_13 (fun b13 => ?_)
    refine zz_getN C (ci := 1) (N := 4) 1 rfl zi_Ce (by decide) fn_SM_137 (xw_7 b13) rfl d_SM_areaOf_14 ?_
    refine zz_goto (tgt := 21) C d_SM_areaOf_17 (by decide) ?_
    exact xr_i C hr rfl d_SM_areaOf_21 (by simp only [xf_areaOf, if_neg h5] <;> simp [xf_areaOf, z_at]) rfl
set_option maxHeartbeats 400000 in
set_option maxRecDepth 100000 in
theorem c_SM_room {l : Launch} {D : va_G} {dA : Nat → ClassId} {lo n : Nat} {σ : zS} {a : Int32} (I : xI σ) : xM l y_SM_room b_SM_room 2 (some .int) 1 D dA lo n [.ref (xa0 lo 0), .int a] σ (some (.int (xf_room σ a))) σ := by
  refine zM_of (lv0 := [(0, .ref (xa0 lo 0)), (1, .int a)]) (by decide) rfl rfl rfl ?_
  intro p e s m below meth c C hr hnm hsz
  have C : zC p s m ([.ref (xa0 lo 0), .int a] : List Value).toArray meth c b_SM_room 2 R_SM D dA := C
  refine zz_aload_n C d_SM_room_0 rfl ?_
  refine zz_iload_n C d_SM_room_1 rfl ?_
  refine xc_Vi C (xw_0 Nat.zero_lt_one) rfl s_SM_86 c_SM_isArea rfl rfl d_SM_room_2 k_SM_isArea ⟨by decide, by decide⟩ rfl ?_
  refine zz_if_eq (tgt := 20) C d_SM_room_5 (by decide) (fun h5 => ?_) (fun h5 => ?_)
  · refine zz_iconst (x := -1) C d_SM_room_20 rfl ?_
    exact xr_i C hr rfl d_SM_room_21 (by simp only [xf_room, if_pos h5] <;> simp [xf_room, z_at]) rfl
  · refine zz_aload_n C d_SM_room_8 rfl ?_
    refine zz_get C (ci := 3) (N := 8) 0 rfl zi_SM (by decide) fl_SM_11 (xw_0 Nat.zero_lt_one) rfl d_SM_room_9 ?_
    refine zz_iload_n C d_SM_room_12 rfl ?_
    refine zz_aald C (t0 := 2) rfl (xw_1 Nat.zero_lt_one) (x_area_in I h5) (fun h9 => if_pos h9) d_SM_room_13 (fun b13 => ?_)
    refine xc_VNi C (xw_6 b13) rfl s_SM_111 (c_Ar_free b13) rfl rfl d_SM_room_14 k_Ar_free ⟨by decide, by decide⟩ rfl ?_
    refine zz_goto (tgt := 21) C d_SM_room_17 (by decide) ?_
    exact xr_i C hr rfl d_SM_room_21 (by simp only [xf_room, if_neg h5] <;> simp [xf_room, z_at]) rfl
set_option maxHeartbeats 400000 in
set_option maxRecDepth 100000 in
theorem c_SM_parent {l : Launch} {D : va_G} {dA : Nat → ClassId} {lo n : Nat} {σ : zS} {z : Int32} (I : xI σ) : xM l y_SM_parent b_SM_parent 2 (some .int) 2 D dA lo n [.ref (xa0 lo 0), .int z] σ (some (.int (xf_parent σ z))) σ := by
  refine zM_of (lv0 := [(0, .ref (xa0 lo 0)), (1, .int z)]) (by decide) rfl rfl rfl ?_
  intro p e s m below meth c C hr hnm hsz
  have C : zC p s m ([.ref (xa0 lo 0), .int z] : List Value).toArray meth c b_SM_parent 2 R_SM D dA := C
  refine zz_aload_n C d_SM_parent_0 rfl ?_
  refine zz_iload_n C d_SM_parent_1 rfl ?_
  refine xc_Vi C (xw_0 Nat.zero_lt_one) rfl s_SM_63 c_SM_isScope rfl rfl d_SM_parent_2 k_SM_isScope ⟨by decide, by decide⟩ rfl ?_
  refine zz_if_ne (tgt := 10) C d_SM_parent_5 (by decide) (fun h5 => ?_) (fun h5 => ?_)
  · refine zz_aload_n C d_SM_parent_10 rfl ?_
    refine zz_get C (ci := 3) (N := 8) 0 rfl zi_SM (by decide) fl_SM_11 (xw_0 Nat.zero_lt_one) rfl d_SM_parent_11 ?_
    refine zz_iload_n C d_SM_parent_14 rfl ?_
    refine zz_aald C (t0 := 2) rfl (xw_1 Nat.zero_lt_one) (x_scope_in I h5) (fun h9 => if_pos h9) d_SM_parent_15 (fun b15 => ?_)
    refine zz_getN C (ci := 0) (N := 5) 2 rfl zi_Ar (by decide) fn_SM_73 (xw_6 b15) rfl d_SM_parent_16 ?_
    refine zz_if_le (tgt := 34) C d_SM_parent_19 (by decide) (fun h19 => ?_) (fun h19 => ?_)
    · refine zz_bipush (x := -6) C d_SM_parent_34 rfl ?_
      exact xr_i C hr rfl d_SM_parent_36 (by simp only [xf_parent, if_neg h5, if_pos h19] <;> simp [xf_parent, z_at]) rfl
    · refine zz_aload_n C d_SM_parent_22 rfl ?_
      refine zz_get C (ci := 3) (N := 8) 0 rfl zi_SM (by decide) fl_SM_11 (xw_0 Nat.zero_lt_one) rfl d_SM_parent_23 ?_
      refine zz_iload_n C d_SM_parent_26 rfl ?_
      refine zz_aald C (t0 := 2) rfl (xw_1 Nat.zero_lt_one) (x_scope_in I h5) (fun h9 => if_pos h9) d_SM_parent_27 (fun b27 => ?_)
      refine zz_getN C (ci := 0) (N := 5) 3 rfl zi_Ar (by decide) fn_SM_76 (xw_6 b27) rfl d_SM_parent_28 ?_
      refine zz_goto (tgt := 36) C d_SM_parent_31 (by decide) ?_
      exact xr_i C hr rfl d_SM_parent_36 (by simp only [xf_parent, if_neg h5, if_neg h19] <;> simp [xf_parent, z_at]) rfl
  · refine zz_iconst (x := -1) C d_SM_parent_8 rfl ?_
    exact xr_i C hr rfl d_SM_parent_9 (by simp only [xf_parent, if_pos h5] <;> simp [xf_parent, z_at]) rfl
set_option maxHeartbeats 400000 in
set_option maxRecDepth 100000 in
theorem c_SM_entries {l : Launch} {D : va_G} {dA : Nat → ClassId} {lo n : Nat} {σ : zS} {z : Int32} (I : xI σ) : xM l y_SM_entries b_SM_entries 2 (some .int) 2 D dA lo n [.ref (xa0 lo 0), .int z] σ (some (.int (xf_entries σ z))) σ := by
  refine zM_of (lv0 := [(0, .ref (xa0 lo 0)), (1, .int z)]) (by decide) rfl rfl rfl ?_
  intro p e s m below meth c C hr hnm hsz
  have C : zC p s m ([.ref (xa0 lo 0), .int z] : List Value).toArray meth c b_SM_entries 2 R_SM D dA := C
  refine zz_aload_n C d_SM_entries_0 rfl ?_
  refine zz_iload_n C d_SM_entries_1 rfl ?_
  refine xc_Vi C (xw_0 Nat.zero_lt_one) rfl s_SM_63 c_SM_isScope rfl rfl d_SM_entries_2 k_SM_isScope ⟨by decide, by decide⟩ rfl ?_
  refine zz_if_eq (tgt := 20) C d_SM_entries_5 (by decide) (fun h5 => ?_) (fun h5 => ?_)
  · refine zz_iconst (x := -1) C d_SM_entries_20 rfl ?_
    exact xr_i C hr rfl d_SM_entries_21 (by simp only [xf_entries, if_pos h5] <;> simp [xf_entries, z_at]) rfl
  · refine zz_aload_n C d_SM_entries_8 rfl ?_
    refine zz_get C (ci := 3) (N := 8) 0 rfl zi_SM (by decide) fl_SM_11 (xw_0 Nat.zero_lt_one) rfl d_SM_entries_9 ?_
    refine zz_iload_n C d_SM_entries_12 rfl ?_
    refine zz_aald C (t0 := 2) rfl (xw_1 Nat.zero_lt_one) (x_scope_in I h5) (fun h9 => if_pos h9) d_SM_entries_13 (fun b13 => ?_)
    refine zz_getN C (ci := 0) (N := 5) 2 rfl zi_Ar (by decide) fn_SM_73 (xw_6 b13) rfl d_SM_entries_14 ?_
    refine zz_goto (tgt := 21) C d_SM_entries_17 (by decide) ?_
    exact xr_i C hr rfl d_SM_entries_21 (by simp only [xf_entries, if_neg h5] <;> simp [xf_entries, z_at]) rfl
set_option maxHeartbeats 400000 in
set_option maxRecDepth 100000 in
theorem c_SM_view {l : Launch} {D : va_G} {dA : Nat → ClassId} {lo n : Nat} {σ : zS} {t i : Int32} (I : xI σ) : xM l y_SM_view b_SM_view 4 (some .int) 2 D dA lo n [.ref (xa0 lo 0), .int t, .int i] σ (some (.int (xf_view σ t i))) σ := by
  refine zM_of (lv0 := [(0, .ref (xa0 lo 0)), (1, .int t), (2, .int i)]) (by decide) rfl rfl rfl ?_
  intro p e s m below meth c C hr hnm hsz
  have C : zC p s m ([.ref (xa0 lo 0), .int t, .int i] : List Value).toArray meth c b_SM_view 4 R_SM D dA := C
  refine zz_aload_n C d_SM_view_0 rfl ?_
  refine zz_iload_n C d_SM_view_1 rfl ?_
  refine xc_Vi C (xw_0 Nat.zero_lt_one) rfl s_SM_52 c_SM_isBegun rfl rfl d_SM_view_2 k_SM_isBegun ⟨by decide, by decide⟩ rfl ?_
  refine zz_if_eq (tgt := 12) C d_SM_view_5 (by decide) (fun h5 => ?_) (fun h5 => ?_)
  · refine zz_iconst (x := -1) C d_SM_view_12 rfl ?_
    exact xr_i C hr rfl d_SM_view_13 (by simp only [xf_view, if_pos h5] <;> simp [xf_view, z_at]) rfl
  · refine zz_iload_n C d_SM_view_8 rfl ?_
    refine zz_if_ge (tgt := 14) C d_SM_view_9 (by decide) (fun h9 => ?_) (fun h9 => ?_)
    · refine zz_aload_n C d_SM_view_14 rfl ?_
      refine zz_get C (ci := 3) (N := 8) 2 rfl zi_SM (by decide) fl_SM_23 (xw_0 Nat.zero_lt_one) rfl d_SM_view_15 ?_
      refine zz_iload_n C d_SM_view_18 rfl ?_
      refine zz_aald C (t0 := 4) rfl (xw_3 Nat.zero_lt_one) (x_begun_thr h5) (fun h9 => if_pos h9) d_SM_view_19 (fun b19 => ?_)
      refine zz_iload_n C d_SM_view_20 rfl ?_
      refine xc_VNi C (xw_9 b19) rfl s_SM_164 (c_Ro_areaInView b19 I (z_nn h9)) rfl rfl d_SM_view_21 k_Ro_areaInView ⟨by decide, by decide⟩ rfl ?_
      refine zz_istore_n C d_SM_view_24 (by decide) ?_
      refine zz_iload_n C d_SM_view_25 rfl ?_
      refine zz_iconst (x := -1) C d_SM_view_26 rfl ?_
      refine zz_icmp_ne (tgt := 34) C d_SM_view_27 (by decide) (fun h27 => ?_) (fun h27 => ?_)
      · refine zz_iload_n C d_SM_view_34 rfl ?_
        exact xr_i C hr rfl d_SM_view_35 (by simp only [xf_view, if_neg h5, if_pos h9, if_neg h27] <;> simp [xf_view, z_at]) rfl
      · refine zz_iconst (x := -1) C d_SM_view_30 rfl ?_
        refine zz_goto (tgt := 35) C d_SM_view_31 (by decide) ?_
        exact xr_i C hr rfl d_SM_view_35 (by simp only [xf_view, if_neg h5, if_pos h9, if_pos h27] <;> simp [xf_view, z_at]) rfl
    · refine zz_iconst (x := -1) C d_SM_view_12 rfl ?_
      exact xr_i C hr rfl d_SM_view_13 (by simp only [xf_view, if_neg h5, if_neg h9] <;> simp [xf_view, z_at]) rfl
set_option maxHeartbeats 400000 in
set_option maxRecDepth 100000 in
theorem c_SM_count {l : Launch} {D : va_G} {dA : Nat → ClassId} {lo n : Nat} {σ : zS} {w : Int32} {r : Int32} {τ : zS} (I : xI σ) (hR : xf_count σ w = (r, τ)) : xM l y_SM_count b_SM_count 2 (some .int) 4 D dA lo n [.ref (xa0 lo 0), .int w] σ (some (.int (r))) τ := by
  refine zM_of (lv0 := [(0, .ref (xa0 lo 0)), (1, .int w)]) (by decide) rfl rfl rfl ?_
  intro p e s m below meth c C hr hnm hsz
  have C : zC p s m ([.ref (xa0 lo 0), .int w] : List Value).toArray meth c b_SM_count 2 R_SM D dA := C
  refine zz_iload_n C d_SM_count_0 rfl ?_
  by_cases g0 : w = 0
  · subst g0
    simp only [xf_count, if_true, Prod.mk.injEq] at hR
    refine zz_tableIn (tgt := 48) C d_SM_count_1 (by decide) (by decide) rfl (by decide) ?_
    refine zz_aload_n C d_SM_count_48 rfl ?_
    refine zz_get C (ci := 3) (N := 8) 7 rfl zi_SM (by decide) fl_SM_121 (xw_0 Nat.zero_lt_one) rfl d_SM_count_49 ?_
    exact xr_i C hr rfl d_SM_count_52 hR.1 hR.2
  by_cases g1 : w = 1
  · subst g1
    simp only [xf_count, if_neg (show ¬ (1 : Int32) = 0 by decide), if_true, Prod.mk.injEq] at hR
    refine zz_tableIn (tgt := 53) C d_SM_count_1 (by decide) (by decide) rfl (by decide) ?_
    refine zz_aload_n C d_SM_count_53 rfl ?_
    refine zz_get C (ci := 3) (N := 8) 6 rfl zi_SM (by decide) fl_SM_45 (xw_0 Nat.zero_lt_one) rfl d_SM_count_54 ?_
    exact xr_i C hr rfl d_SM_count_57 hR.1 hR.2
  by_cases g2 : w = 2
  · subst g2
    simp only [xf_count, if_neg (show ¬ (2 : Int32) = 0 by decide), if_neg (show ¬ (2 : Int32) = 1 by decide), if_true, Prod.mk.injEq] at hR
    refine zz_tableIn (tgt := 58) C d_SM_count_1 (by decide) (by decide) rfl (by decide) ?_
    refine zz_aload_n C d_SM_count_58 rfl ?_
    refine xc_Vi C (xw_0 Nat.zero_lt_one) rfl s_SM_167 c_SM_begunThreads rfl rfl d_SM_count_59 k_SM_begunThreads ⟨by decide, by decide⟩ rfl ?_
    exact xr_i C hr rfl d_SM_count_62 hR.1 hR.2
  by_cases g3 : w = 3
  · subst g3
    simp only [xf_count, if_neg (show ¬ (3 : Int32) = 0 by decide), if_neg (show ¬ (3 : Int32) = 1 by decide), if_neg (show ¬ (3 : Int32) = 2 by decide), if_true, Prod.mk.injEq] at hR
    refine zz_tableIn (tgt := 63) C d_SM_count_1 (by decide) (by decide) rfl (by decide) ?_
    refine zz_aload_n C d_SM_count_63 rfl ?_
    refine xc_Vv C (xw_0 Nat.zero_lt_one) rfl s_SM_152 (c_SM_findKept I) rfl rfl d_SM_count_64 k_SM_findKept ⟨by decide, by decide⟩ rfl ?_
    refine zz_aload_n C d_SM_count_67 rfl ?_
    refine zz_get C (ci := 3) (N := 8) 5 rfl zi_SM (by decide) fl_SM_170 (xw_0 Nat.zero_lt_one) rfl d_SM_count_68 ?_
    exact xr_i C hr rfl d_SM_count_71 hR.1 hR.2
  by_cases g4 : w = 4
  · subst g4
    simp only [xf_count, if_neg (show ¬ (4 : Int32) = 0 by decide), if_neg (show ¬ (4 : Int32) = 1 by decide), if_neg (show ¬ (4 : Int32) = 2 by decide), if_neg (show ¬ (4 : Int32) = 3 by decide), if_true, Prod.mk.injEq] at hR
    refine zz_tableIn (tgt := 72) C d_SM_count_1 (by decide) (by decide) rfl (by decide) ?_
    refine zz_aload_n C d_SM_count_72 rfl ?_
    refine zz_get C (ci := 3) (N := 8) 3 rfl zi_SM (by decide) fl_SM_27 (xw_0 Nat.zero_lt_one) rfl d_SM_count_73 ?_
    refine zz_iload_n C d_SM_count_76 rfl ?_
    refine zz_iconst (x := 4) C d_SM_count_77 rfl ?_
    refine zz_isub C d_SM_count_78 ?_
    refine zz_iald C (t0 := 0) rfl (xw_4 Nat.zero_lt_one) (by unfold vp_in; decide) d_SM_count_79 ?_
    refine xc_Si C s_SM_149 c_SM_objectOrNull rfl rfl d_SM_count_80 k_SM_objectOrNull ⟨by decide, by decide⟩ rfl ?_
    exact xr_i C hr rfl d_SM_count_83 hR.1 hR.2
  by_cases g5 : w = 5
  · subst g5
    simp only [xf_count, if_neg (show ¬ (5 : Int32) = 0 by decide), if_neg (show ¬ (5 : Int32) = 1 by decide), if_neg (show ¬ (5 : Int32) = 2 by decide), if_neg (show ¬ (5 : Int32) = 3 by decide), if_neg (show ¬ (5 : Int32) = 4 by decide), if_true, Prod.mk.injEq] at hR
    refine zz_tableIn (tgt := 72) C d_SM_count_1 (by decide) (by decide) rfl (by decide) ?_
    refine zz_aload_n C d_SM_count_72 rfl ?_
    refine zz_get C (ci := 3) (N := 8) 3 rfl zi_SM (by decide) fl_SM_27 (xw_0 Nat.zero_lt_one) rfl d_SM_count_73 ?_
    refine zz_iload_n C d_SM_count_76 rfl ?_
    refine zz_iconst (x := 4) C d_SM_count_77 rfl ?_
    refine zz_isub C d_SM_count_78 ?_
    refine zz_iald C (t0 := 0) rfl (xw_4 Nat.zero_lt_one) (by unfold vp_in; decide) d_SM_count_79 ?_
    refine xc_Si C s_SM_149 c_SM_objectOrNull rfl rfl d_SM_count_80 k_SM_objectOrNull ⟨by decide, by decide⟩ rfl ?_
    exact xr_i C hr rfl d_SM_count_83 hR.1 hR.2
  by_cases g6 : w = 6
  · subst g6
    simp only [xf_count, if_neg (show ¬ (6 : Int32) = 0 by decide), if_neg (show ¬ (6 : Int32) = 1 by decide), if_neg (show ¬ (6 : Int32) = 2 by decide), if_neg (show ¬ (6 : Int32) = 3 by decide), if_neg (show ¬ (6 : Int32) = 4 by decide), if_neg (show ¬ (6 : Int32) = 5 by decide), if_true, Prod.mk.injEq] at hR
    refine zz_tableIn (tgt := 72) C d_SM_count_1 (by decide) (by decide) rfl (by decide) ?_
    refine zz_aload_n C d_SM_count_72 rfl ?_
    refine zz_get C (ci := 3) (N := 8) 3 rfl zi_SM (by decide) fl_SM_27 (xw_0 Nat.zero_lt_one) rfl d_SM_count_73 ?_
    refine zz_iload_n C d_SM_count_76 rfl ?_
    refine zz_iconst (x := 4) C d_SM_count_77 rfl ?_
    refine zz_isub C d_SM_count_78 ?_
    refine zz_iald C (t0 := 0) rfl (xw_4 Nat.zero_lt_one) (by unfold vp_in; decide) d_SM_count_79 ?_
    refine xc_Si C s_SM_149 c_SM_objectOrNull rfl rfl d_SM_count_80 k_SM_objectOrNull ⟨by decide, by decide⟩ rfl ?_
    exact xr_i C hr rfl d_SM_count_83 hR.1 hR.2
  by_cases g7 : w = 7
  · subst g7
    simp only [xf_count, if_neg (show ¬ (7 : Int32) = 0 by decide), if_neg (show ¬ (7 : Int32) = 1 by decide), if_neg (show ¬ (7 : Int32) = 2 by decide), if_neg (show ¬ (7 : Int32) = 3 by decide), if_neg (show ¬ (7 : Int32) = 4 by decide), if_neg (show ¬ (7 : Int32) = 5 by decide), if_neg (show ¬ (7 : Int32) = 6 by decide), if_true, Prod.mk.injEq] at hR
    refine zz_tableIn (tgt := 72) C d_SM_count_1 (by decide) (by decide) rfl (by decide) ?_
    refine zz_aload_n C d_SM_count_72 rfl ?_
    refine zz_get C (ci := 3) (N := 8) 3 rfl zi_SM (by decide) fl_SM_27 (xw_0 Nat.zero_lt_one) rfl d_SM_count_73 ?_
    refine zz_iload_n C d_SM_count_76 rfl ?_
    refine zz_iconst (x := 4) C d_SM_count_77 rfl ?_
    refine zz_isub C d_SM_count_78 ?_
    refine zz_iald C (t0 := 0) rfl (xw_4 Nat.zero_lt_one) (by unfold vp_in; decide) d_SM_count_79 ?_
    refine xc_Si C s_SM_149 c_SM_objectOrNull rfl rfl d_SM_count_80 k_SM_objectOrNull ⟨by decide, by decide⟩ rfl ?_
    exact xr_i C hr rfl d_SM_count_83 hR.1 hR.2
  refine zz_tableOut (tgt := 84) C d_SM_count_1 (x_out8 g0 g1 g2 g3 g4 g5 g6 g7) (by decide) ?_
  refine zz_iconst (x := -1) C d_SM_count_84 rfl ?_
  simp only [xf_count, if_neg g0, if_neg g1, if_neg g2, if_neg g3, if_neg g4, if_neg g5, if_neg g6, if_neg g7, Prod.mk.injEq] at hR
  exact xr_i C hr rfl d_SM_count_85 hR.1 hR.2
