set_option maxHeartbeats 400000 in
set_option maxRecDepth 100000 in
theorem c_MM_clamp {l : Launch} {D : va_G} {dA : Nat → ClassId} {lo n : Nat} {σ : zS} {v : Int32} : mM l y_MM_clamp b_MM_clamp 2 (some .int) 0 D dA lo n [.ref (ma0 lo 0), .int v] σ (some (.int (mf_clamp v))) σ := by
  refine zM_of (lv0 := [(0, .ref (ma0 lo 0)), (1, .int v)]) (by decide) rfl rfl rfl ?_
  intro p e s m below meth c C hr hnm hsz
  have C : zC p s m ([.ref (ma0 lo 0), .int v] : List Value).toArray meth c b_MM_clamp 2 R_MM D dA := C
  refine zz_iload_n C d_MM_clamp_0 rfl ?_
  refine zz_iconst (x := 4) C d_MM_clamp_1 rfl ?_
  refine zz_icmp_ge (tgt := 9) C d_MM_clamp_2 (by decide) (fun h2 => ?_) (fun h2 => ?_)
  · refine zz_iload_n C d_MM_clamp_9 rfl ?_
    refine zz_bipush (x := 60) C d_MM_clamp_10 rfl ?_
    refine zz_icmp_le (tgt := 20) C d_MM_clamp_12 (by decide) (fun h12 => ?_) (fun h12 => ?_)
    · refine zz_iload_n C d_MM_clamp_20 rfl ?_
      exact mr_i C hr rfl d_MM_clamp_21 (by simp only [mf_clamp, if_pos h2, if_pos h12] <;> simp [mf_clamp, z_at]) rfl
    · refine zz_bipush (x := 60) C d_MM_clamp_15 rfl ?_
      refine zz_goto (tgt := 21) C d_MM_clamp_17 (by decide) ?_
      exact mr_i C hr rfl d_MM_clamp_21 (by simp only [mf_clamp, if_pos h2, if_neg h12] <;> simp [mf_clamp, z_at]) rfl
  · refine zz_iconst (x := 4) C d_MM_clamp_5 rfl ?_
    refine zz_goto (tgt := 21) C d_MM_clamp_6 (by decide) ?_
    exact mr_i C hr rfl d_MM_clamp_21 (by simp only [mf_clamp, if_neg h2] <;> simp [mf_clamp, z_at]) rfl
set_option maxHeartbeats 400000 in
set_option maxRecDepth 100000 in
theorem c_MM_idle {l : Launch} {D : va_G} {dA : Nat → ClassId} {lo n : Nat} {σ : zS} {t : Int32} : mM l y_MM_idle b_MM_idle 2 (some .boolean) 0 D dA lo n [.ref (ma0 lo 0), .int t] σ (some (.int (mf_idle σ t))) σ := by
  refine zM_of (lv0 := [(0, .ref (ma0 lo 0)), (1, .int t)]) (by decide) rfl rfl rfl ?_
  intro p e s m below meth c C hr hnm hsz
  have C : zC p s m ([.ref (ma0 lo 0), .int t] : List Value).toArray meth c b_MM_idle 2 R_MM D dA := C
  refine zz_iload_n C d_MM_idle_0 rfl ?_
  refine zz_if_lt (tgt := 18) C d_MM_idle_1 (by decide) (fun h1 => ?_) (fun h1 => ?_)
  · refine zz_iconst (x := 1) C d_MM_idle_18 rfl ?_
    refine zz_goto (tgt := 23) C d_MM_idle_19 (by decide) ?_
    exact mr_i C hr rfl d_MM_idle_23 (by simp only [mf_idle, if_pos h1] <;> simp [mf_idle, z_at]) rfl
  · refine zz_iload_n C d_MM_idle_4 rfl ?_
    refine zz_iconst (x := 3) C d_MM_idle_5 rfl ?_
    refine zz_icmp_gt (tgt := 18) C d_MM_idle_6 (by decide) (fun h6 => ?_) (fun h6 => ?_)
    · refine zz_iconst (x := 1) C d_MM_idle_18 rfl ?_
      refine zz_goto (tgt := 23) C d_MM_idle_19 (by decide) ?_
      exact mr_i C hr rfl d_MM_idle_23 (by simp only [mf_idle, if_neg h1, if_pos h6] <;> simp [mf_idle, z_at]) rfl
    · refine zz_aload_n C d_MM_idle_9 rfl ?_
      refine zz_get C (ci := 4) (N := 16) 9 rfl zi_MM (by decide) fl_MM_39 (mw_0 Nat.zero_lt_one) rfl d_MM_idle_10 ?_
      refine zz_iload_n C d_MM_idle_13 rfl ?_
      refine zz_zald C (t0 := 1) rfl (mw_9 Nat.zero_lt_one) (z_vin2 h1 h6 rfl) d_MM_idle_14 ?_
      refine zz_if_ne (tgt := 22) C d_MM_idle_15 (by decide) (fun h15 => ?_) (fun h15 => ?_)
      · refine zz_iconst (x := 0) C d_MM_idle_22 rfl ?_
        exact mr_i C hr rfl d_MM_idle_23 (by simp only [mf_idle, if_neg h1, if_neg h6, if_neg h15] <;> simp [mf_idle, z_at]) rfl
      · refine zz_iconst (x := 1) C d_MM_idle_18 rfl ?_
        refine zz_goto (tgt := 23) C d_MM_idle_19 (by decide) ?_
        exact mr_i C hr rfl d_MM_idle_23 (by simp only [mf_idle, if_neg h1, if_neg h6, if_pos h15] <;> simp [mf_idle, z_at]) rfl
set_option maxHeartbeats 400000 in
set_option maxRecDepth 100000 in
theorem c_MM_noArea {l : Launch} {D : va_G} {dA : Nat → ClassId} {lo n : Nat} {σ : zS} {a : Int32} : mM l y_MM_noArea b_MM_noArea 2 (some .boolean) 0 D dA lo n [.ref (ma0 lo 0), .int a] σ (some (.int (mf_noArea σ a))) σ := by
  refine zM_of (lv0 := [(0, .ref (ma0 lo 0)), (1, .int a)]) (by decide) rfl rfl rfl ?_
  intro p e s m below meth c C hr hnm hsz
  have C : zC p s m ([.ref (ma0 lo 0), .int a] : List Value).toArray meth c b_MM_noArea 2 R_MM D dA := C
  refine zz_iload_n C d_MM_noArea_0 rfl ?_
  refine zz_if_lt (tgt := 12) C d_MM_noArea_1 (by decide) (fun h1 => ?_) (fun h1 => ?_)
  · refine zz_iconst (x := 1) C d_MM_noArea_12 rfl ?_
    refine zz_goto (tgt := 17) C d_MM_noArea_13 (by decide) ?_
    exact mr_i C hr rfl d_MM_noArea_17 (by simp only [mf_noArea, if_pos h1] <;> simp [mf_noArea, z_at]) rfl
  · refine zz_iload_n C d_MM_noArea_4 rfl ?_
    refine zz_aload_n C d_MM_noArea_5 rfl ?_
    refine zz_get C (ci := 4) (N := 16) 0 rfl zi_MM (by decide) fl_MM_7 (mw_0 Nat.zero_lt_one) rfl d_MM_noArea_6 ?_
    refine zz_icmp_lt (tgt := 16) C d_MM_noArea_9 (by decide) (fun h9 => ?_) (fun h9 => ?_)
    · refine zz_iconst (x := 0) C d_MM_noArea_16 rfl ?_
      exact mr_i C hr rfl d_MM_noArea_17 (by simp only [mf_noArea, if_neg h1, if_pos h9] <;> simp [mf_noArea, z_at]) rfl
    · refine zz_iconst (x := 1) C d_MM_noArea_12 rfl ?_
      refine zz_goto (tgt := 17) C d_MM_noArea_13 (by decide) ?_
      exact mr_i C hr rfl d_MM_noArea_17 (by simp only [mf_noArea, if_neg h1, if_neg h9] <;> simp [mf_noArea, z_at]) rfl
set_option maxHeartbeats 400000 in
set_option maxRecDepth 100000 in
theorem c_MM_noScope {l : Launch} {D : va_G} {dA : Nat → ClassId} {lo n : Nat} {σ : zS} {a : Int32} : mM l y_MM_noScope b_MM_noScope 2 (some .boolean) 0 D dA lo n [.ref (ma0 lo 0), .int a] σ (some (.int (mf_noScope σ a))) σ := by
  refine zM_of (lv0 := [(0, .ref (ma0 lo 0)), (1, .int a)]) (by decide) rfl rfl rfl ?_
  intro p e s m below meth c C hr hnm hsz
  have C : zC p s m ([.ref (ma0 lo 0), .int a] : List Value).toArray meth c b_MM_noScope 2 R_MM D dA := C
  refine zz_iload_n C d_MM_noScope_0 rfl ?_
  refine zz_iconst (x := 2) C d_MM_noScope_1 rfl ?_
  refine zz_icmp_lt (tgt := 13) C d_MM_noScope_2 (by decide) (fun h2 => ?_) (fun h2 => ?_)
  · refine zz_iconst (x := 1) C d_MM_noScope_13 rfl ?_
    refine zz_goto (tgt := 18) C d_MM_noScope_14 (by decide) ?_
    exact mr_i C hr rfl d_MM_noScope_18 (by simp only [mf_noScope, if_pos h2] <;> simp [mf_noScope, z_at]) rfl
  · refine zz_iload_n C d_MM_noScope_5 rfl ?_
    refine zz_aload_n C d_MM_noScope_6 rfl ?_
    refine zz_get C (ci := 4) (N := 16) 0 rfl zi_MM (by decide) fl_MM_7 (mw_0 Nat.zero_lt_one) rfl d_MM_noScope_7 ?_
    refine zz_icmp_lt (tgt := 17) C d_MM_noScope_10 (by decide) (fun h10 => ?_) (fun h10 => ?_)
    · refine zz_iconst (x := 0) C d_MM_noScope_17 rfl ?_
      exact mr_i C hr rfl d_MM_noScope_18 (by simp only [mf_noScope, if_neg h2, if_pos h10] <;> simp [mf_noScope, z_at]) rfl
    · refine zz_iconst (x := 1) C d_MM_noScope_13 rfl ?_
      refine zz_goto (tgt := 18) C d_MM_noScope_14 (by decide) ?_
      exact mr_i C hr rfl d_MM_noScope_18 (by simp only [mf_noScope, if_neg h2, if_neg h10] <;> simp [mf_noScope, z_at]) rfl
set_option maxHeartbeats 400000 in
set_option maxRecDepth 100000 in
theorem c_MM_noObject {l : Launch} {D : va_G} {dA : Nat → ClassId} {lo n : Nat} {σ : zS} {o : Int32} : mM l y_MM_noObject b_MM_noObject 2 (some .boolean) 0 D dA lo n [.ref (ma0 lo 0), .int o] σ (some (.int (mf_noObject σ o))) σ := by
  refine zM_of (lv0 := [(0, .ref (ma0 lo 0)), (1, .int o)]) (by decide) rfl rfl rfl ?_
  intro p e s m below meth c C hr hnm hsz
  have C : zC p s m ([.ref (ma0 lo 0), .int o] : List Value).toArray meth c b_MM_noObject 2 R_MM D dA := C
  refine zz_iload_n C d_MM_noObject_0 rfl ?_
  refine zz_if_lt (tgt := 19) C d_MM_noObject_1 (by decide) (fun h1 => ?_) (fun h1 => ?_)
  · refine zz_iconst (x := 1) C d_MM_noObject_19 rfl ?_
    refine zz_goto (tgt := 24) C d_MM_noObject_20 (by decide) ?_
    exact mr_i C hr rfl d_MM_noObject_24 (by simp only [mf_noObject, if_pos h1] <;> simp [mf_noObject, z_at]) rfl
  · refine zz_iload_n C d_MM_noObject_4 rfl ?_
    refine zz_bipush (x := 39) C d_MM_noObject_5 rfl ?_
    refine zz_icmp_gt (tgt := 19) C d_MM_noObject_7 (by decide) (fun h7 => ?_) (fun h7 => ?_)
    · refine zz_iconst (x := 1) C d_MM_noObject_19 rfl ?_
      refine zz_goto (tgt := 24) C d_MM_noObject_20 (by decide) ?_
      exact mr_i C hr rfl d_MM_noObject_24 (by simp only [mf_noObject, if_neg h1, if_pos h7] <;> simp [mf_noObject, z_at]) rfl
    · refine zz_aload_n C d_MM_noObject_10 rfl ?_
      refine zz_get C (ci := 4) (N := 16) 5 rfl zi_MM (by decide) fl_MM_26 (mw_0 Nat.zero_lt_one) rfl d_MM_noObject_11 ?_
      refine zz_iload_n C d_MM_noObject_14 rfl ?_
      refine zz_iald C (t0 := 0) rfl (mw_5 Nat.zero_lt_one) (z_vin2 h1 h7 rfl) d_MM_noObject_15 ?_
      refine zz_if_ge (tgt := 23) C d_MM_noObject_16 (by decide) (fun h16 => ?_) (fun h16 => ?_)
      · refine zz_iconst (x := 0) C d_MM_noObject_23 rfl ?_
        exact mr_i C hr rfl d_MM_noObject_24 (by simp only [mf_noObject, if_neg h1, if_neg h7, if_pos h16] <;> simp [mf_noObject, z_at]) rfl
      · refine zz_iconst (x := 1) C d_MM_noObject_19 rfl ?_
        refine zz_goto (tgt := 24) C d_MM_noObject_20 (by decide) ?_
        exact mr_i C hr rfl d_MM_noObject_24 (by simp only [mf_noObject, if_neg h1, if_neg h7, if_neg h16] <;> simp [mf_noObject, z_at]) rfl
set_option maxHeartbeats 400000 in
set_option maxRecDepth 100000 in
theorem c_MM_used {l : Launch} {D : va_G} {dA : Nat → ClassId} {lo n : Nat} {σ : zS} {a : Int32} : mM l y_MM_used b_MM_used 4 (some .int) 0 D dA lo n [.ref (ma0 lo 0), .int a] σ (some (.int (mf_used σ a))) σ := by
  refine zM_of (lv0 := [(0, .ref (ma0 lo 0)), (1, .int a)]) (by decide) rfl rfl rfl ?_
  intro p e s m below meth c C hr hnm hsz
  have C : zC p s m ([.ref (ma0 lo 0), .int a] : List Value).toArray meth c b_MM_used 4 R_MM D dA := C
  have loop : ∀ (k i : Nat) (q iv : Int32), iv = nI i → i + k = 40 → mf_us σ a k i q = mf_used σ a → mZ p l e 0 s m ([.ref (ma0 lo 0), .int a] : List Value).toArray below meth c D dA lo 4 n (some (.int (mf_used σ a))) (σ) (σ) 4 [(0, .ref (ma0 lo 0)), (1, .int a), (2, .int q), (3, .int iv)] [] := by
    intro k
    induction k with
    | zero =>
      intro i q iv hiv hik hres
      refine zz_iload_n C d_MM_used_4 rfl ?_
      refine zz_bipush (x := 40) C d_MM_used_5 rfl ?_
      refine zz_icmp_ge (tgt := 37) C d_MM_used_7 (by decide) (fun h7 => ?_) (fun h7 => ?_)
      · refine zz_iload_n C d_MM_used_37 rfl ?_
        exact mr_i C hr rfl d_MM_used_38 hres rfl
      · exact absurd (z_ge (N := 40) hiv rfl (by omega) (by omega)) h7
    | succ k ih =>
      intro i q iv hiv hik hres
      unfold mf_us at hres
      have hix : iv.toNatClampNeg = i := z_ixI hiv (by omega)
      refine zz_iload_n C d_MM_used_4 rfl ?_
      refine zz_bipush (x := 40) C d_MM_used_5 rfl ?_
      refine zz_icmp_ge (tgt := 37) C d_MM_used_7 (by decide) (fun h7 => ?_) (fun h7 => ?_)
      · exact absurd h7 (z_nge hiv rfl (show i < 40 by omega) (by decide))
      · refine zz_aload_n C d_MM_used_10 rfl ?_
        refine zz_get C (ci := 4) (N := 16) 5 rfl zi_MM (by decide) fl_MM_26 (mw_0 Nat.zero_lt_one) rfl d_MM_used_11 ?_
        refine zz_iload_n C d_MM_used_14 rfl ?_
        refine zz_iald C (t0 := 0) rfl (mw_5 Nat.zero_lt_one) (z_vinI hiv (by omega) (by decide)) d_MM_used_15 ?_
        refine zz_iload_n C d_MM_used_16 rfl ?_
        refine zz_icmp_ne (tgt := 31) C d_MM_used_17 (by decide) (fun h17 => ?_) (fun h17 => ?_)
        · refine zz_iinc (d' := 1) C d_MM_used_31 rfl rfl (by decide) ?_
          refine zz_goto (tgt := 4) C d_MM_used_34 (by decide) ?_
          refine zz_lv [0, 1, 2, 3] rfl ?_
          rw [hix] at h17
          exact ih (i + 1) _ _ (z_sI hiv) (by omega) (by rw [← hres, if_neg h17])
        · refine zz_iload_n C d_MM_used_20 rfl ?_
          refine zz_iconst (x := 1) C d_MM_used_21 rfl ?_
          refine zz_aload_n C d_MM_used_22 rfl ?_
          refine zz_get C (ci := 4) (N := 16) 6 rfl zi_MM (by decide) fl_MM_29 (mw_0 Nat.zero_lt_one) rfl d_MM_used_23 ?_
          refine zz_iload_n C d_MM_used_26 rfl ?_
          refine zz_iald C (t0 := 0) rfl (mw_6 Nat.zero_lt_one) (z_vinI hiv (by omega) (by decide)) d_MM_used_27 ?_
          refine zz_iadd C d_MM_used_28 ?_
          refine zz_iadd C d_MM_used_29 ?_
          refine zz_istore_n C d_MM_used_30 (by decide) ?_
          refine zz_iinc (d' := 1) C d_MM_used_31 rfl rfl (by decide) ?_
          refine zz_goto (tgt := 4) C d_MM_used_34 (by decide) ?_
          refine zz_lv [0, 1, 2, 3] rfl ?_
          rw [hix] at h17
          rw [hix]
          exact ih (i + 1) _ _ (z_sI hiv) (by omega) (by rw [← hres, if_pos h17])
  refine zz_iconst (x := 0) C d_MM_used_0 rfl ?_
  refine zz_istore_n C d_MM_used_1 (by decide) ?_
  refine zz_iconst (x := 0) C d_MM_used_2 rfl ?_
  refine zz_istore_n C d_MM_used_3 (by decide) ?_
  refine zz_lv [0, 1, 2, 3] rfl ?_
  exact loop 40 0 _ _ nI_0.symm rfl rfl
set_option maxHeartbeats 400000 in
set_option maxRecDepth 100000 in
theorem c_MM_scope {l : Launch} {D : va_G} {dA : Nat → ClassId} {lo n : Nat} {σ : zS} {size : Int32} (I : mI σ) : mM l y_MM_scope b_MM_scope 2 (some .int) 0 D dA lo n [.ref (ma0 lo 0), .int size] σ (some (.int ((mf_scope σ size).1))) ((mf_scope σ size).2) := by
  refine zM_of (lv0 := [(0, .ref (ma0 lo 0)), (1, .int size)]) (by decide) rfl rfl rfl ?_
  intro p e s m below meth c C hr hnm hsz
  have C : zC p s m ([.ref (ma0 lo 0), .int size] : List Value).toArray meth c b_MM_scope 2 R_MM D dA := C
  refine zz_iload_n C d_MM_scope_0 rfl ?_
  refine zz_iconst (x := 1) C d_MM_scope_1 rfl ?_
  refine zz_icmp_lt (tgt := 11) C d_MM_scope_2 (by decide) (fun h2 => ?_) (fun h2 => ?_)
  · refine zz_iconst (x := -1) C d_MM_scope_11 rfl ?_
    exact mr_i C hr rfl d_MM_scope_12 (by simp only [mf_scope, if_pos h2] <;> simp [mf_scope, z_at]) (by simp only [mf_scope, if_pos h2] <;> simp [mf_scope, z_at])
  · refine zz_iload_n C d_MM_scope_5 rfl ?_
    refine zz_bipush (x := 40) C d_MM_scope_6 rfl ?_
    refine zz_icmp_le (tgt := 13) C d_MM_scope_8 (by decide) (fun h8 => ?_) (fun h8 => ?_)
    · refine zz_aload_n C d_MM_scope_13 rfl ?_
      refine zz_get C (ci := 4) (N := 16) 0 rfl zi_MM (by decide) fl_MM_7 (mw_0 Nat.zero_lt_one) rfl d_MM_scope_14 ?_
      refine zz_bipush (x := 10) C d_MM_scope_17 rfl ?_
      refine zz_icmp_ne (tgt := 25) C d_MM_scope_19 (by decide) (fun h19 => ?_) (fun h19 => ?_)
      · refine zz_aload_n C d_MM_scope_25 rfl ?_
        refine zz_get C (ci := 4) (N := 16) 1 rfl zi_MM (by decide) fl_MM_13 (mw_0 Nat.zero_lt_one) rfl d_MM_scope_26 ?_
        refine zz_aload_n C d_MM_scope_29 rfl ?_
        refine zz_get C (ci := 4) (N := 16) 0 rfl zi_MM (by decide) fl_MM_7 (mw_0 Nat.zero_lt_one) rfl d_MM_scope_30 ?_
        refine zz_iload_n C d_MM_scope_33 rfl ?_
        refine ms_1 C Nat.zero_lt_one (m_nA_in I h19) d_MM_scope_34 ?_
        refine zz_aload_n C d_MM_scope_35 rfl ?_
        refine zz_dup C d_MM_scope_36 rfl ?_
        refine zz_get C (ci := 4) (N := 16) 0 rfl zi_MM (by decide) fl_MM_7 (mw_0 Nat.zero_lt_one) rfl d_MM_scope_37 ?_
        refine zz_iconst (x := 1) C d_MM_scope_40 rfl ?_
        refine zz_iadd C d_MM_scope_41 ?_
        refine mp_0 C fl_MM_7 Nat.zero_lt_one rfl rfl d_MM_scope_42 ?_
        refine zz_aload_n C d_MM_scope_45 rfl ?_
        refine zz_get C (ci := 4) (N := 16) 0 rfl zi_MM (by decide) fl_MM_7 (mw_0 Nat.zero_lt_one) rfl d_MM_scope_46 ?_
        refine zz_iconst (x := 1) C d_MM_scope_49 rfl ?_
        refine zz_isub C d_MM_scope_50 ?_
        exact mr_i C hr rfl d_MM_scope_51 (by simp only [mf_scope, if_neg h2, if_pos h8, if_neg h19] <;> simp [mf_scope, z_at]) (by simp only [mf_scope, if_neg h2, if_pos h8, if_neg h19] <;> simp [mf_scope, z_at])
      · refine zz_bipush (x := -2) C d_MM_scope_22 rfl ?_
        exact mr_i C hr rfl d_MM_scope_24 (by simp only [mf_scope, if_neg h2, if_pos h8, if_pos h19] <;> simp [mf_scope, z_at]) (by simp only [mf_scope, if_neg h2, if_pos h8, if_pos h19] <;> simp [mf_scope, z_at])
    · refine zz_iconst (x := -1) C d_MM_scope_11 rfl ?_
      exact mr_i C hr rfl d_MM_scope_12 (by simp only [mf_scope, if_neg h2, if_neg h8] <;> simp [mf_scope, z_at]) (by simp only [mf_scope, if_neg h2, if_neg h8] <;> simp [mf_scope, z_at])
set_option maxHeartbeats 400000 in
set_option maxRecDepth 100000 in
theorem c_MM_step {l : Launch} {D : va_G} {dA : Nat → ClassId} {lo n : Nat} {σ : zS} {t a u b : Int32} (ht : vp_in t 4) (hk : vp_in (σ 11 0 (z_ix t)) 12) : mM l y_MM_step b_MM_step 6 (some .int) 0 D dA lo n [.ref (ma0 lo 0), .int t, .int a, .int u, .int b] σ (some (.int (σ 11 0 (z_ix t) + 1))) (mf_step σ t a u b) := by
  refine zM_of (lv0 := [(0, .ref (ma0 lo 0)), (1, .int t), (2, .int a), (3, .int u), (4, .int b)]) (by decide) rfl rfl rfl ?_
  intro p e s m below meth c C hr hnm hsz
  have C : zC p s m ([.ref (ma0 lo 0), .int t, .int a, .int u, .int b] : List Value).toArray meth c b_MM_step 6 R_MM D dA := C
  refine zz_iload_n C d_MM_step_0 rfl ?_
  refine zz_bipush (x := 12) C d_MM_step_1 rfl ?_
  refine zz_imul C d_MM_step_3 ?_
  refine zz_aload_n C d_MM_step_4 rfl ?_
  refine zz_get C (ci := 4) (N := 16) 11 rfl zi_MM (by decide) fl_MM_45 (mw_0 Nat.zero_lt_one) rfl d_MM_step_5 ?_
  refine zz_iload_n C d_MM_step_8 rfl ?_
  refine zz_iald C (t0 := 0) rfl (mw_11 Nat.zero_lt_one) ht d_MM_step_9 ?_
  refine zz_iadd C d_MM_step_10 ?_
  refine zz_istore C d_MM_step_11 (by decide) ?_
  refine zz_aload_n C d_MM_step_13 rfl ?_
  refine zz_get C (ci := 4) (N := 16) 12 rfl zi_MM (by decide) fl_MM_48 (mw_0 Nat.zero_lt_one) rfl d_MM_step_14 ?_
  refine zz_iload C d_MM_step_17 rfl ?_
  refine zz_iload_n C d_MM_step_19 rfl ?_
  refine ms_12 C Nat.zero_lt_one (m_ix ht hk) d_MM_step_20 ?_
  refine zz_aload_n C d_MM_step_21 rfl ?_
  refine zz_get C (ci := 4) (N := 16) 13 rfl zi_MM (by decide) fl_MM_51 (mw_0 Nat.zero_lt_one) rfl d_MM_step_22 ?_
  refine zz_iload C d_MM_step_25 rfl ?_
  refine zz_iload_n C d_MM_step_27 rfl ?_
  refine ms_13 C Nat.zero_lt_one (m_ix ht hk) d_MM_step_28 ?_
  refine zz_aload_n C d_MM_step_29 rfl ?_
  refine zz_get C (ci := 4) (N := 16) 14 rfl zi_MM (by decide) fl_MM_54 (mw_0 Nat.zero_lt_one) rfl d_MM_step_30 ?_
  refine zz_iload C d_MM_step_33 rfl ?_
  refine zz_iload C d_MM_step_35 rfl ?_
  refine ms_14 C Nat.zero_lt_one (m_ix ht hk) d_MM_step_37 ?_
  refine zz_aload_n C d_MM_step_38 rfl ?_
  refine zz_get C (ci := 4) (N := 16) 11 rfl zi_MM (by decide) fl_MM_45 (mw_0 Nat.zero_lt_one) rfl d_MM_step_39 ?_
  refine zz_iload_n C d_MM_step_42 rfl ?_
  refine zz_dup2 C d_MM_step_43 rfl rfl ?_
  refine zz_iald C (t0 := 0) rfl (mw_11 Nat.zero_lt_one) ht d_MM_step_44 ?_
  refine zz_iconst (x := 1) C d_MM_step_45 rfl ?_
  refine zz_iadd C d_MM_step_46 ?_
  refine ms_11 C Nat.zero_lt_one ht d_MM_step_47 ?_
  refine zz_aload_n C d_MM_step_48 rfl ?_
  refine zz_get C (ci := 4) (N := 16) 11 rfl zi_MM (by decide) fl_MM_45 (mw_0 Nat.zero_lt_one) rfl d_MM_step_49 ?_
  refine zz_iload_n C d_MM_step_52 rfl ?_
  refine zz_iald C (t0 := 0) rfl (mw_11 Nat.zero_lt_one) ht d_MM_step_53 ?_
  exact mr_i C hr rfl d_MM_step_54 (by first | rfl | simp [mf_step, z_at]) (by first | rfl | simp [mf_step, z_at])
set_option maxHeartbeats 400000 in
set_option maxRecDepth 100000 in
theorem c_MM_begin {l : Launch} {D : va_G} {dA : Nat → ClassId} {lo n : Nat} {σ : zS} {t h : Int32} : mM l y_MM_begin b_MM_begin 3 (some .int) 1 D dA lo n [.ref (ma0 lo 0), .int t, .int h] σ (some (.int ((mf_begin σ t h).1))) ((mf_begin σ t h).2) := by
  refine zM_of (lv0 := [(0, .ref (ma0 lo 0)), (1, .int t), (2, .int h)]) (by decide) rfl rfl rfl ?_
  intro p e s m below meth c C hr hnm hsz
  have C : zC p s m ([.ref (ma0 lo 0), .int t, .int h] : List Value).toArray meth c b_MM_begin 3 R_MM D dA := C
  refine zz_iload_n C d_MM_begin_0 rfl ?_
  refine zz_if_lt (tgt := 18) C d_MM_begin_1 (by decide) (fun h1 => ?_) (fun h1 => ?_)
  · refine zz_iconst (x := -1) C d_MM_begin_18 rfl ?_
    exact mr_i C hr rfl d_MM_begin_19 (by simp only [mf_begin, if_pos h1] <;> simp [mf_begin, mf_beginS, mf_step, z_at]) (by simp only [mf_begin, if_pos h1] <;> simp [mf_begin, mf_beginS, mf_step, z_at])
  · refine zz_iload_n C d_MM_begin_4 rfl ?_
    refine zz_iconst (x := 3) C d_MM_begin_5 rfl ?_
    refine zz_icmp_gt (tgt := 18) C d_MM_begin_6 (by decide) (fun h6 => ?_) (fun h6 => ?_)
    · refine zz_iconst (x := -1) C d_MM_begin_18 rfl ?_
      exact mr_i C hr rfl d_MM_begin_19 (by simp only [mf_begin, if_neg h1, if_pos h6] <;> simp [mf_begin, mf_beginS, mf_step, z_at]) (by simp only [mf_begin, if_neg h1, if_pos h6] <;> simp [mf_begin, mf_beginS, mf_step, z_at])
    · refine zz_aload_n C d_MM_begin_9 rfl ?_
      refine zz_get C (ci := 4) (N := 16) 9 rfl zi_MM (by decide) fl_MM_39 (mw_0 Nat.zero_lt_one) rfl d_MM_begin_10 ?_
      refine zz_iload_n C d_MM_begin_13 rfl ?_
      refine zz_zald C (t0 := 1) rfl (mw_9 Nat.zero_lt_one) (z_vin2 h1 h6 rfl) d_MM_begin_14 ?_
      refine zz_if_eq (tgt := 20) C d_MM_begin_15 (by decide) (fun h15 => ?_) (fun h15 => ?_)
      · refine zz_aload_n C d_MM_begin_20 rfl ?_
        refine zz_get C (ci := 4) (N := 16) 9 rfl zi_MM (by decide) fl_MM_39 (mw_0 Nat.zero_lt_one) rfl d_MM_begin_21 ?_
        refine zz_iload_n C d_MM_begin_24 rfl ?_
        refine zz_iconst (x := 1) C d_MM_begin_25 rfl ?_
        refine ms_9 C Nat.zero_lt_one (z_vin2 h1 h6 rfl) d_MM_begin_26 ?_
        refine zz_aload_n C d_MM_begin_27 rfl ?_
        refine zz_get C (ci := 4) (N := 16) 10 rfl zi_MM (by decide) fl_MM_42 (mw_0 Nat.zero_lt_one) rfl d_MM_begin_28 ?_
        refine zz_iload_n C d_MM_begin_31 rfl ?_
        refine zz_iload_n C d_MM_begin_32 rfl ?_
        refine ms_10 C Nat.zero_lt_one (z_vin2 h1 h6 rfl) d_MM_begin_33 ?_
        refine zz_aload_n C d_MM_begin_34 rfl ?_
        refine zz_get C (ci := 4) (N := 16) 11 rfl zi_MM (by decide) fl_MM_45 (mw_0 Nat.zero_lt_one) rfl d_MM_begin_35 ?_
        refine zz_iload_n C d_MM_begin_38 rfl ?_
        refine zz_iconst (x := 0) C d_MM_begin_39 rfl ?_
        refine ms_11 C Nat.zero_lt_one (z_vin2 h1 h6 rfl) d_MM_begin_40 ?_
        refine zz_aload_n C d_MM_begin_41 rfl ?_
        refine zz_iload_n C d_MM_begin_42 rfl ?_
        refine zz_iload_n C d_MM_begin_43 rfl ?_
        refine zz_if_eq (tgt := 51) C d_MM_begin_44 (by decide) (fun h44 => ?_) (fun h44 => ?_)
        · refine zz_iconst (x := 0) C d_MM_begin_51 rfl ?_
          refine zz_iconst (x := -1) C d_MM_begin_52 rfl ?_
          refine zz_iconst (x := 0) C d_MM_begin_53 rfl ?_
          refine mc_Vi C (mw_0 Nat.zero_lt_one) rfl s_MM_64 (c_MM_step (z_vin2 h1 h6 rfl) (by rw [z_at, if_pos ⟨rfl, rfl, rfl⟩]; exact vp_in_nI (n := 0) (by decide) (by decide))) rfl rfl d_MM_begin_54 k_MM_step ⟨by decide, by decide⟩ rfl ?_
          refine zz_pop C d_MM_begin_57 rfl ?_
          refine zz_iconst (x := 0) C d_MM_begin_58 rfl ?_
          exact mr_i C hr rfl d_MM_begin_59 (by simp only [mf_begin, if_neg h1, if_neg h6, if_pos h15, if_pos h44] <;> simp [mf_begin, mf_beginS, mf_step, z_at]) (by simp only [mf_begin, if_neg h1, if_neg h6, if_pos h15, if_pos h44] <;> simp [mf_begin, mf_beginS, mf_step, z_at])
        · refine zz_iconst (x := 1) C d_MM_begin_47 rfl ?_
          refine zz_goto (tgt := 52) C d_MM_begin_48 (by decide) ?_
          refine zz_iconst (x := -1) C d_MM_begin_52 rfl ?_
          refine zz_iconst (x := 0) C d_MM_begin_53 rfl ?_
          refine mc_Vi C (mw_0 Nat.zero_lt_one) rfl s_MM_64 (c_MM_step (z_vin2 h1 h6 rfl) (by rw [z_at, if_pos ⟨rfl, rfl, rfl⟩]; exact vp_in_nI (n := 0) (by decide) (by decide))) rfl rfl d_MM_begin_54 k_MM_step ⟨by decide, by decide⟩ rfl ?_
          refine zz_pop C d_MM_begin_57 rfl ?_
          refine zz_iconst (x := 0) C d_MM_begin_58 rfl ?_
          exact mr_i C hr rfl d_MM_begin_59 (by simp only [mf_begin, if_neg h1, if_neg h6, if_pos h15, if_neg h44] <;> simp [mf_begin, mf_beginS, mf_step, z_at]) (by simp only [mf_begin, if_neg h1, if_neg h6, if_pos h15, if_neg h44] <;> simp [mf_begin, mf_beginS, mf_step, z_at])
      · refine zz_iconst (x := -1) C d_MM_begin_18 rfl ?_
        exact mr_i C hr rfl d_MM_begin_19 (by simp only [mf_begin, if_neg h1, if_neg h6, if_neg h15] <;> simp [mf_begin, mf_beginS, mf_step, z_at]) (by simp only [mf_begin, if_neg h1, if_neg h6, if_neg h15] <;> simp [mf_begin, mf_beginS, mf_step, z_at])
set_option maxHeartbeats 400000 in
set_option maxRecDepth 100000 in
theorem c_MM_viewed {l : Launch} {D : va_G} {dA : Nat → ClassId} {lo n : Nat} {σ : zS} {t i : Int32} (I : mI σ) (ht : vp_in t 4) (hi : ¬ i < 0) : mM l y_MM_viewed b_MM_viewed 5 (some .int) 0 D dA lo n [.ref (ma0 lo 0), .int t, .int i] σ (some (.int (mf_viewed σ t i))) σ := by
  refine zM_of (lv0 := [(0, .ref (ma0 lo 0)), (1, .int t), (2, .int i)]) (by decide) rfl rfl rfl ?_
  intro p e s m below meth c C hr hnm hsz
  have C : zC p s m ([.ref (ma0 lo 0), .int t, .int i] : List Value).toArray meth c b_MM_viewed 5 R_MM D dA := C
  obtain ⟨j, hj, hij⟩ := nI_of hi
  have loop : ∀ (d r : Nat) (q iv : Int32), iv = nI r → r + d = j → z_o 12 q → mf_vw σ t d q = mf_viewed σ t i → mZ p l e 0 s m ([.ref (ma0 lo 0), .int t, .int i] : List Value).toArray below meth c D dA lo 5 n (some (.int (mf_viewed σ t i))) (σ) (σ) 12 [(0, .ref (ma0 lo 0)), (1, .int t), (2, .int i), (3, .int q), (4, .int iv)] [] := by
    intro d
    induction d with
    | zero =>
      intro r q iv hiv hik hq hres
      refine zz_iload C d_MM_viewed_12 rfl ?_
      refine zz_iload_n C d_MM_viewed_14 rfl ?_
      refine zz_icmp_ge (tgt := 40) C d_MM_viewed_15 (by decide) (fun h15 => ?_) (fun h15 => ?_)
      · refine zz_iload_n C d_MM_viewed_40 rfl ?_
        exact mr_i C hr rfl d_MM_viewed_41 hres rfl
      · exact absurd (z_ge (N := j) hiv hij (by omega) (by omega)) h15
    | succ d ih =>
      intro r q iv hiv hik hq hres
      unfold mf_vw at hres
      refine zz_iload C d_MM_viewed_12 rfl ?_
      refine zz_iload_n C d_MM_viewed_14 rfl ?_
      refine zz_icmp_ge (tgt := 40) C d_MM_viewed_15 (by decide) (fun h15 => ?_) (fun h15 => ?_)
      · exact absurd h15 (z_nge hiv hij (by omega) hj)
      · refine zz_iload_n C d_MM_viewed_18 rfl ?_
        refine zz_if_lt (tgt := 40) C d_MM_viewed_19 (by decide) (fun h19 => ?_) (fun h19 => ?_)
        · refine zz_iload_n C d_MM_viewed_40 rfl ?_
          exact mr_i C hr rfl d_MM_viewed_41 (by rw [← hres, if_pos h19]) rfl
        · refine zz_aload_n C d_MM_viewed_22 rfl ?_
          refine zz_get C (ci := 4) (N := 16) 13 rfl zi_MM (by decide) fl_MM_51 (mw_0 Nat.zero_lt_one) rfl d_MM_viewed_23 ?_
          refine zz_iload_n C d_MM_viewed_26 rfl ?_
          refine zz_bipush (x := 12) C d_MM_viewed_27 rfl ?_
          refine zz_imul C d_MM_viewed_29 ?_
          refine zz_iload_n C d_MM_viewed_30 rfl ?_
          refine zz_iadd C d_MM_viewed_31 ?_
          refine zz_iald C (t0 := 0) rfl (mw_13 Nat.zero_lt_one) (m_ix ht (z_nlt hq h19)) d_MM_viewed_32 ?_
          refine zz_istore_n C d_MM_viewed_33 (by decide) ?_
          refine zz_iinc (d' := 1) C d_MM_viewed_34 rfl rfl (by decide) ?_
          refine zz_goto (tgt := 12) C d_MM_viewed_37 (by decide) ?_
          refine zz_lv [0, 1, 2, 3, 4] rfl ?_
          exact ih (r + 1) _ _ (z_sI hiv) (by omega) (I.2.2.2.2.2.2.2.1 _ (z_vlt (m_ix ht (z_nlt hq h19)))) (by rw [← hres, if_neg h19])
  refine zz_aload_n C d_MM_viewed_0 rfl ?_
  refine zz_get C (ci := 4) (N := 16) 11 rfl zi_MM (by decide) fl_MM_45 (mw_0 Nat.zero_lt_one) rfl d_MM_viewed_1 ?_
  refine zz_iload_n C d_MM_viewed_4 rfl ?_
  refine zz_iald C (t0 := 0) rfl (mw_11 Nat.zero_lt_one) ht d_MM_viewed_5 ?_
  refine zz_iconst (x := 1) C d_MM_viewed_6 rfl ?_
  refine zz_isub C d_MM_viewed_7 ?_
  refine zz_istore_n C d_MM_viewed_8 (by decide) ?_
  refine zz_iconst (x := 0) C d_MM_viewed_9 rfl ?_
  refine zz_istore C d_MM_viewed_10 (by decide) ?_
  refine zz_lv [0, 1, 2, 3, 4] rfl ?_
  exact loop j 0 _ _ nI_0.symm (by omega) (m_top_o I (z_vlt ht)) (by unfold mf_viewed; rw [show z_ix i = j from z_ixI hij hj])
set_option maxHeartbeats 400000 in
set_option maxRecDepth 100000 in
theorem c_MM_stepWith {l : Launch} {D : va_G} {dA : Nat → ClassId} {lo n : Nat} {σ : zS} {t a : Int32} (I : mI σ) (ht : vp_in t 4) : mM l y_MM_stepWith b_MM_stepWith 5 (some .int) 1 D dA lo n [.ref (ma0 lo 0), .int t, .int a] σ (some (.int (mf_stepWith σ t a))) σ := by
  refine zM_of (lv0 := [(0, .ref (ma0 lo 0)), (1, .int t), (2, .int a)]) (by decide) rfl rfl rfl ?_
  intro p e s m below meth c C hr hnm hsz
  have C : zC p s m ([.ref (ma0 lo 0), .int t, .int a] : List Value).toArray meth c b_MM_stepWith 5 R_MM D dA := C
  have loop : ∀ (k i : Nat) (iv : Int32), iv = nI i → i + k = 12 → mf_sw σ t a k i = mf_stepWith σ t a → mZ p l e 1 s m ([.ref (ma0 lo 0), .int t, .int a] : List Value).toArray below meth c D dA lo 5 n (some (.int (mf_stepWith σ t a))) (σ) (σ) 2 [(0, .ref (ma0 lo 0)), (1, .int t), (2, .int a), (3, .int iv)] [] := by
    intro k
    induction k with
    | zero =>
      intro i iv hiv hik hres
      refine zz_iload_n C d_MM_stepWith_2 rfl ?_
      refine zz_bipush (x := 12) C d_MM_stepWith_3 rfl ?_
      refine zz_icmp_ge (tgt := 48) C d_MM_stepWith_5 (by decide) (fun h5 => ?_) (fun h5 => ?_)
      · refine zz_iconst (x := -1) C d_MM_stepWith_48 rfl ?_
        exact mr_i C hr rfl d_MM_stepWith_49 (by rw [← hres]; rfl) rfl
      · exact absurd (z_ge (N := 12) hiv rfl (by omega) (by omega)) h5
    | succ k ih =>
      intro i iv hiv hik hres
      unfold mf_sw at hres
      rw [← hiv] at hres
      refine zz_iload_n C d_MM_stepWith_2 rfl ?_
      refine zz_bipush (x := 12) C d_MM_stepWith_3 rfl ?_
      refine zz_icmp_ge (tgt := 48) C d_MM_stepWith_5 (by decide) (fun h5 => ?_) (fun h5 => ?_)
      · exact absurd h5 (z_nge hiv rfl (show i < 12 by omega) (by decide))
      · refine zz_aload_n C d_MM_stepWith_8 rfl ?_
        refine zz_iload_n C d_MM_stepWith_9 rfl ?_
        refine zz_iload_n C d_MM_stepWith_10 rfl ?_
        refine mc_Vi C (mw_0 Nat.zero_lt_one) rfl s_MM_68 (c_MM_viewed I ht (z_nnI hiv (by omega))) rfl rfl d_MM_stepWith_11 k_MM_viewed ⟨by decide, by decide⟩ rfl ?_
        refine zz_istore C d_MM_stepWith_14 (by decide) ?_
        refine zz_iload C d_MM_stepWith_16 rfl ?_
        refine zz_if_ge (tgt := 23) C d_MM_stepWith_18 (by decide) (fun h18 => ?_) (fun h18 => ?_)
        · refine zz_aload_n C d_MM_stepWith_23 rfl ?_
          refine zz_get C (ci := 4) (N := 16) 12 rfl zi_MM (by decide) fl_MM_48 (mw_0 Nat.zero_lt_one) rfl d_MM_stepWith_24 ?_
          refine zz_iload_n C d_MM_stepWith_27 rfl ?_
          refine zz_bipush (x := 12) C d_MM_stepWith_28 rfl ?_
          refine zz_imul C d_MM_stepWith_30 ?_
          refine zz_iload C d_MM_stepWith_31 rfl ?_
          refine zz_iadd C d_MM_stepWith_33 ?_
          refine zz_iald C (t0 := 0) rfl (mw_12 Nat.zero_lt_one) (m_ix ht (z_nle (m_viewed_o I ht) h18)) d_MM_stepWith_34 ?_
          refine zz_iload_n C d_MM_stepWith_35 rfl ?_
          refine zz_icmp_ne (tgt := 42) C d_MM_stepWith_36 (by decide) (fun h36 => ?_) (fun h36 => ?_)
          · refine zz_iinc (d' := 1) C d_MM_stepWith_42 rfl rfl (by decide) ?_
            refine zz_goto (tgt := 2) C d_MM_stepWith_45 (by decide) ?_
            refine zz_lv [0, 1, 2, 3] rfl ?_
            exact ih (i + 1) _ (z_sI hiv) (by omega) (by rw [← hres, if_pos h18, if_neg h36])
          · refine zz_iload C d_MM_stepWith_39 rfl ?_
            exact mr_i C hr rfl d_MM_stepWith_41 (by rw [← hres, if_pos h18, if_pos h36]) rfl
        · refine zz_iconst (x := -1) C d_MM_stepWith_21 rfl ?_
          exact mr_i C hr rfl d_MM_stepWith_22 (by rw [← hres, if_neg h18]) rfl
  refine zz_iconst (x := 0) C d_MM_stepWith_0 rfl ?_
  refine zz_istore_n C d_MM_stepWith_1 (by decide) ?_
  refine zz_lv [0, 1, 2, 3] rfl ?_
  exact loop 12 0 _ nI_0.symm rfl rfl
set_option maxHeartbeats 400000 in
set_option maxRecDepth 100000 in
theorem c_MM_nearest {l : Launch} {D : va_G} {dA : Nat → ClassId} {lo n : Nat} {σ : zS} {t : Int32} (I : mI σ) (ht : vp_in t 4) : mM l y_MM_nearest b_MM_nearest 4 (some .int) 1 D dA lo n [.ref (ma0 lo 0), .int t] σ (some (.int (mf_nearest σ t))) σ := by
  refine zM_of (lv0 := [(0, .ref (ma0 lo 0)), (1, .int t)]) (by decide) rfl rfl rfl ?_
  intro p e s m below meth c C hr hnm hsz
  have C : zC p s m ([.ref (ma0 lo 0), .int t] : List Value).toArray meth c b_MM_nearest 4 R_MM D dA := C
  have loop : ∀ (k i : Nat) (iv : Int32), iv = nI i → i + k = 12 → mf_nr σ t k i = mf_nearest σ t → mZ p l e 1 s m ([.ref (ma0 lo 0), .int t] : List Value).toArray below meth c D dA lo 4 n (some (.int (mf_nearest σ t))) (σ) (σ) 2 [(0, .ref (ma0 lo 0)), (1, .int t), (2, .int iv)] [] := by
    intro k
    induction k with
    | zero =>
      intro i iv hiv hik hres
      refine zz_iload_n C d_MM_nearest_2 rfl ?_
      refine zz_bipush (x := 12) C d_MM_nearest_3 rfl ?_
      refine zz_icmp_ge (tgt := 54) C d_MM_nearest_5 (by decide) (fun h5 => ?_) (fun h5 => ?_)
      · refine zz_iconst (x := 0) C d_MM_nearest_54 rfl ?_
        exact mr_i C hr rfl d_MM_nearest_55 (by rw [← hres]; rfl) rfl
      · exact absurd (z_ge (N := 12) hiv rfl (by omega) (by omega)) h5
    | succ k ih =>
      intro i iv hiv hik hres
      unfold mf_nr at hres
      rw [← hiv] at hres
      refine zz_iload_n C d_MM_nearest_2 rfl ?_
      refine zz_bipush (x := 12) C d_MM_nearest_3 rfl ?_
      refine zz_icmp_ge (tgt := 54) C d_MM_nearest_5 (by decide) (fun h5 => ?_) (fun h5 => ?_)
      · exact absurd h5 (z_nge hiv rfl (show i < 12 by omega) (by decide))
      · refine zz_aload_n C d_MM_nearest_8 rfl ?_
        refine zz_iload_n C d_MM_nearest_9 rfl ?_
        refine zz_iload_n C d_MM_nearest_10 rfl ?_
        refine mc_Vi C (mw_0 Nat.zero_lt_one) rfl s_MM_68 (c_MM_viewed I ht (z_nnI hiv (by omega))) rfl rfl d_MM_nearest_11 k_MM_viewed ⟨by decide, by decide⟩ rfl ?_
        refine zz_istore_n C d_MM_nearest_14 (by decide) ?_
        refine zz_iload_n C d_MM_nearest_15 rfl ?_
        refine zz_if_ge (tgt := 21) C d_MM_nearest_16 (by decide) (fun h16 => ?_) (fun h16 => ?_)
        · refine zz_aload_n C d_MM_nearest_21 rfl ?_
          refine zz_get C (ci := 4) (N := 16) 12 rfl zi_MM (by decide) fl_MM_48 (mw_0 Nat.zero_lt_one) rfl d_MM_nearest_22 ?_
          refine zz_iload_n C d_MM_nearest_25 rfl ?_
          refine zz_bipush (x := 12) C d_MM_nearest_26 rfl ?_
          refine zz_imul C d_MM_nearest_28 ?_
          refine zz_iload_n C d_MM_nearest_29 rfl ?_
          refine zz_iadd C d_MM_nearest_30 ?_
          refine zz_iald C (t0 := 0) rfl (mw_12 Nat.zero_lt_one) (m_ix ht (z_nle (m_viewed_o I ht) h16)) d_MM_nearest_31 ?_
          refine zz_iconst (x := 1) C d_MM_nearest_32 rfl ?_
          refine zz_icmp_le (tgt := 48) C d_MM_nearest_33 (by decide) (fun h33 => ?_) (fun h33 => ?_)
          · refine zz_iinc (d' := 1) C d_MM_nearest_48 rfl rfl (by decide) ?_
            refine zz_goto (tgt := 2) C d_MM_nearest_51 (by decide) ?_
            refine zz_lv [0, 1, 2] rfl ?_
            exact ih (i + 1) _ (z_sI hiv) (by omega) (by rw [← hres, if_pos h16, if_pos h33])
          · refine zz_aload_n C d_MM_nearest_36 rfl ?_
            refine zz_get C (ci := 4) (N := 16) 12 rfl zi_MM (by decide) fl_MM_48 (mw_0 Nat.zero_lt_one) rfl d_MM_nearest_37 ?_
            refine zz_iload_n C d_MM_nearest_40 rfl ?_
            refine zz_bipush (x := 12) C d_MM_nearest_41 rfl ?_
            refine zz_imul C d_MM_nearest_43 ?_
            refine zz_iload_n C d_MM_nearest_44 rfl ?_
            refine zz_iadd C d_MM_nearest_45 ?_
            refine zz_iald C (t0 := 0) rfl (mw_12 Nat.zero_lt_one) (m_ix ht (z_nle (m_viewed_o I ht) h16)) d_MM_nearest_46 ?_
            exact mr_i C hr rfl d_MM_nearest_47 (by rw [← hres, if_pos h16, if_neg h33]) rfl
        · refine zz_iconst (x := 0) C d_MM_nearest_19 rfl ?_
          exact mr_i C hr rfl d_MM_nearest_20 (by rw [← hres, if_neg h16]) rfl
  refine zz_iconst (x := 0) C d_MM_nearest_0 rfl ?_
  refine zz_istore_n C d_MM_nearest_1 (by decide) ?_
  refine zz_lv [0, 1, 2] rfl ?_
  exact loop 12 0 _ nI_0.symm rfl rfl
set_option maxHeartbeats 400000 in
set_option maxRecDepth 100000 in
theorem c_MM_enter {l : Launch} {D : va_G} {dA : Nat → ClassId} {lo n : Nat} {σ : zS} {t z : Int32} (I : mI σ) : mM l y_MM_enter b_MM_enter 3 (some .int) 2 D dA lo n [.ref (ma0 lo 0), .int t, .int z] σ (some (.int ((mf_enter σ t z).1))) ((mf_enter σ t z).2) := by
  refine zM_of (lv0 := [(0, .ref (ma0 lo 0)), (1, .int t), (2, .int z)]) (by decide) rfl rfl rfl ?_
  intro p e s m below meth c C hr hnm hsz
  have C : zC p s m ([.ref (ma0 lo 0), .int t, .int z] : List Value).toArray meth c b_MM_enter 3 R_MM D dA := C
  refine zz_aload_n C d_MM_enter_0 rfl ?_
  refine zz_iload_n C d_MM_enter_1 rfl ?_
  refine mc_Vi C (mw_0 Nat.zero_lt_one) rfl s_MM_72 c_MM_idle rfl rfl d_MM_enter_2 k_MM_idle ⟨by decide, by decide⟩ rfl ?_
  refine zz_if_ne (tgt := 16) C d_MM_enter_5 (by decide) (fun h5 => ?_) (fun h5 => ?_)
  · refine zz_iconst (x := -1) C d_MM_enter_16 rfl ?_
    exact mr_i C hr rfl d_MM_enter_17 (by simp only [mf_enter, mf_enterR, mf_enterT, mf_enterS, if_neg h5] <;> simp [mf_enter, mf_enterR, mf_enterT, mf_enterS, mf_step, z_at]) (by simp only [mf_enter, mf_enterR, mf_enterT, mf_enterS, if_neg h5] <;> simp [mf_enter, mf_enterR, mf_enterT, mf_enterS, mf_step, z_at])
  · refine zz_aload_n C d_MM_enter_8 rfl ?_
    refine zz_iload_n C d_MM_enter_9 rfl ?_
    refine mc_Vi C (mw_0 Nat.zero_lt_one) rfl s_MM_76 c_MM_noScope rfl rfl d_MM_enter_10 k_MM_noScope ⟨by decide, by decide⟩ rfl ?_
    refine zz_if_eq (tgt := 18) C d_MM_enter_13 (by decide) (fun h13 => ?_) (fun h13 => ?_)
    · refine zz_aload_n C d_MM_enter_18 rfl ?_
      refine zz_iload_n C d_MM_enter_19 rfl ?_
      refine zz_iload_n C d_MM_enter_20 rfl ?_
      refine mc_Vi C (mw_0 Nat.zero_lt_one) rfl s_MM_79 (c_MM_stepWith I (m_idle_thr h5)) rfl rfl d_MM_enter_21 k_MM_stepWith ⟨by decide, by decide⟩ rfl ?_
      refine zz_if_ge (tgt := 50) C d_MM_enter_24 (by decide) (fun h24 => ?_) (fun h24 => ?_)
      · refine zz_bipush (x := -3) C d_MM_enter_50 rfl ?_
        exact mr_i C hr rfl d_MM_enter_52 (by simp only [mf_enter, mf_enterR, mf_enterT, mf_enterS, if_pos h5, if_pos h13, if_pos h24] <;> simp [mf_enter, mf_enterR, mf_enterT, mf_enterS, mf_step, z_at]) (by simp only [mf_enter, mf_enterR, mf_enterT, mf_enterS, if_pos h5, if_pos h13, if_pos h24] <;> simp [mf_enter, mf_enterR, mf_enterT, mf_enterS, mf_step, z_at])
      · refine zz_aload_n C d_MM_enter_27 rfl ?_
        refine zz_get C (ci := 4) (N := 16) 2 rfl zi_MM (by decide) fl_MM_17 (mw_0 Nat.zero_lt_one) rfl d_MM_enter_28 ?_
        refine zz_iload_n C d_MM_enter_31 rfl ?_
        refine zz_iald C (t0 := 0) rfl (mw_2 Nat.zero_lt_one) (m_scope_in I h13) d_MM_enter_32 ?_
        refine zz_if_le (tgt := 53) C d_MM_enter_33 (by decide) (fun h33 => ?_) (fun h33 => ?_)
        · refine zz_aload_n C d_MM_enter_53 rfl ?_
          refine zz_get C (ci := 4) (N := 16) 11 rfl zi_MM (by decide) fl_MM_45 (mw_0 Nat.zero_lt_one) rfl d_MM_enter_54 ?_
          refine zz_iload_n C d_MM_enter_57 rfl ?_
          refine zz_iald C (t0 := 0) rfl (mw_11 Nat.zero_lt_one) (m_idle_thr h5) d_MM_enter_58 ?_
          refine zz_bipush (x := 12) C d_MM_enter_59 rfl ?_
          refine zz_icmp_ne (tgt := 67) C d_MM_enter_61 (by decide) (fun h61 => ?_) (fun h61 => ?_)
          · refine zz_aload_n C d_MM_enter_67 rfl ?_
            refine zz_get C (ci := 4) (N := 16) 2 rfl zi_MM (by decide) fl_MM_17 (mw_0 Nat.zero_lt_one) rfl d_MM_enter_68 ?_
            refine zz_iload_n C d_MM_enter_71 rfl ?_
            refine zz_iald C (t0 := 0) rfl (mw_2 Nat.zero_lt_one) (m_scope_in I h13) d_MM_enter_72 ?_
            refine zz_if_ne (tgt := 87) C d_MM_enter_73 (by decide) (fun h73 => ?_) (fun h73 => ?_)
            · refine zz_aload_n C d_MM_enter_87 rfl ?_
              refine zz_iload_n C d_MM_enter_88 rfl ?_
              refine zz_iload_n C d_MM_enter_89 rfl ?_
              refine zz_aload_n C d_MM_enter_90 rfl ?_
              refine zz_get C (ci := 4) (N := 16) 11 rfl zi_MM (by decide) fl_MM_45 (mw_0 Nat.zero_lt_one) rfl d_MM_enter_91 ?_
              refine zz_iload_n C d_MM_enter_94 rfl ?_
              refine zz_iald C (t0 := 0) rfl (mw_11 Nat.zero_lt_one) (m_idle_thr h5) d_MM_enter_95 ?_
              refine zz_iconst (x := 1) C d_MM_enter_96 rfl ?_
              refine zz_isub C d_MM_enter_97 ?_
              refine zz_iconst (x := 1) C d_MM_enter_98 rfl ?_
              refine mc_Vi C (mw_0 Nat.zero_lt_one) rfl s_MM_64 (c_MM_step (m_idle_thr h5) (m_len_in (σ := σ) I (z_vlt (m_idle_thr h5)) h61)) rfl rfl d_MM_enter_99 k_MM_step ⟨by decide, by decide⟩ rfl ?_
              refine zz_pop C d_MM_enter_102 rfl ?_
              refine zz_aload_n C d_MM_enter_103 rfl ?_
              refine zz_get C (ci := 4) (N := 16) 2 rfl zi_MM (by decide) fl_MM_17 (mw_0 Nat.zero_lt_one) rfl d_MM_enter_104 ?_
              refine zz_iload_n C d_MM_enter_107 rfl ?_
              refine zz_dup2 C d_MM_enter_108 rfl rfl ?_
              refine zz_iald C (t0 := 0) rfl (mw_2 Nat.zero_lt_one) (m_scope_in I h13) d_MM_enter_109 ?_
              refine zz_iconst (x := 1) C d_MM_enter_110 rfl ?_
              refine zz_iadd C d_MM_enter_111 ?_
              refine ms_2 C Nat.zero_lt_one (m_scope_in I h13) d_MM_enter_112 ?_
              refine zz_aload_n C d_MM_enter_113 rfl ?_
              refine zz_get C (ci := 4) (N := 16) 2 rfl zi_MM (by decide) fl_MM_17 (mw_0 Nat.zero_lt_one) rfl d_MM_enter_114 ?_
              refine zz_iload_n C d_MM_enter_117 rfl ?_
              refine zz_iald C (t0 := 0) rfl (mw_2 Nat.zero_lt_one) (m_scope_in I h13) d_MM_enter_118 ?_
              exact mr_i C hr rfl d_MM_enter_119 (by simp only [mf_enter, mf_enterR, mf_enterT, mf_enterS, if_pos h5, if_pos h13, if_neg h24, if_pos h33, if_neg h61, if_neg h73] <;> simp [mf_enter, mf_enterR, mf_enterT, mf_enterS, mf_step, z_at]) (by simp only [mf_enter, mf_enterR, mf_enterT, mf_enterS, if_pos h5, if_pos h13, if_neg h24, if_pos h33, if_neg h61, if_neg h73] <;> simp [mf_enter, mf_enterR, mf_enterT, mf_enterS, mf_step, z_at])
            · refine zz_aload_n C d_MM_enter_76 rfl ?_
              refine zz_get C (ci := 4) (N := 16) 3 rfl zi_MM (by decide) fl_MM_20 (mw_0 Nat.zero_lt_one) rfl d_MM_enter_77 ?_
              refine zz_iload_n C d_MM_enter_80 rfl ?_
              refine zz_aload_n C d_MM_enter_81 rfl ?_
              refine zz_iload_n C d_MM_enter_82 rfl ?_
              refine mc_Vi C (mw_0 Nat.zero_lt_one) rfl s_MM_82 (c_MM_nearest I (m_idle_thr h5)) rfl rfl d_MM_enter_83 k_MM_nearest ⟨by decide, by decide⟩ rfl ?_
              refine ms_3 C Nat.zero_lt_one (m_scope_in I h13) d_MM_enter_86 ?_
              refine zz_aload_n C d_MM_enter_87 rfl ?_
              refine zz_iload_n C d_MM_enter_88 rfl ?_
              refine zz_iload_n C d_MM_enter_89 rfl ?_
              refine zz_aload_n C d_MM_enter_90 rfl ?_
              refine zz_get C (ci := 4) (N := 16) 11 rfl zi_MM (by decide) fl_MM_45 (mw_0 Nat.zero_lt_one) rfl d_MM_enter_91 ?_
              refine zz_iload_n C d_MM_enter_94 rfl ?_
              refine zz_iald C (t0 := 0) rfl (mw_11 Nat.zero_lt_one) (m_idle_thr h5) d_MM_enter_95 ?_
              refine zz_iconst (x := 1) C d_MM_enter_96 rfl ?_
              refine zz_isub C d_MM_enter_97 ?_
              refine zz_iconst (x := 1) C d_MM_enter_98 rfl ?_
              refine mc_Vi C (mw_0 Nat.zero_lt_one) rfl s_MM_64 (c_MM_step (m_idle_thr h5) (m_len_in (σ := σ) I (z_vlt (m_idle_thr h5)) h61)) rfl rfl d_MM_enter_99 k_MM_step ⟨by decide, by decide⟩ rfl ?_
              refine zz_pop C d_MM_enter_102 rfl ?_
              refine zz_aload_n C d_MM_enter_103 rfl ?_
              refine zz_get C (ci := 4) (N := 16) 2 rfl zi_MM (by decide) fl_MM_17 (mw_0 Nat.zero_lt_one) rfl d_MM_enter_104 ?_
              refine zz_iload_n C d_MM_enter_107 rfl ?_
              refine zz_dup2 C d_MM_enter_108 rfl rfl ?_
              refine zz_iald C (t0 := 0) rfl (mw_2 Nat.zero_lt_one) (m_scope_in I h13) d_MM_enter_109 ?_
              refine zz_iconst (x := 1) C d_MM_enter_110 rfl ?_
              refine zz_iadd C d_MM_enter_111 ?_
              refine ms_2 C Nat.zero_lt_one (m_scope_in I h13) d_MM_enter_112 ?_
              refine zz_aload_n C d_MM_enter_113 rfl ?_
              refine zz_get C (ci := 4) (N := 16) 2 rfl zi_MM (by decide) fl_MM_17 (mw_0 Nat.zero_lt_one) rfl d_MM_enter_114 ?_
              refine zz_iload_n C d_MM_enter_117 rfl ?_
              refine zz_iald C (t0 := 0) rfl (mw_2 Nat.zero_lt_one) (m_scope_in I h13) d_MM_enter_118 ?_
              exact mr_i C hr rfl d_MM_enter_119 (by simp only [mf_enter, mf_enterR, mf_enterT, mf_enterS, if_pos h5, if_pos h13, if_neg h24, if_pos h33, if_neg h61, if_pos h73] <;> simp [mf_enter, mf_enterR, mf_enterT, mf_enterS, mf_step, z_at]) (by simp only [mf_enter, mf_enterR, mf_enterT, mf_enterS, if_pos h5, if_pos h13, if_neg h24, if_pos h33, if_neg h61, if_pos h73] <;> simp [mf_enter, mf_enterR, mf_enterT, mf_enterS, mf_step, z_at])
          · refine zz_bipush (x := -2) C d_MM_enter_64 rfl ?_
            exact mr_i C hr rfl d_MM_enter_66 (by simp only [mf_enter, mf_enterR, mf_enterT, mf_enterS, if_pos h5, if_pos h13, if_neg h24, if_pos h33, if_pos h61] <;> simp [mf_enter, mf_enterR, mf_enterT, mf_enterS, mf_step, z_at]) (by simp only [mf_enter, mf_enterR, mf_enterT, mf_enterS, if_pos h5, if_pos h13, if_neg h24, if_pos h33, if_pos h61] <;> simp [mf_enter, mf_enterR, mf_enterT, mf_enterS, mf_step, z_at])
        · refine zz_aload_n C d_MM_enter_36 rfl ?_
          refine zz_get C (ci := 4) (N := 16) 3 rfl zi_MM (by decide) fl_MM_20 (mw_0 Nat.zero_lt_one) rfl d_MM_enter_37 ?_
          refine zz_iload_n C d_MM_enter_40 rfl ?_
          refine zz_iald C (t0 := 0) rfl (mw_3 Nat.zero_lt_one) (m_scope_in I h13) d_MM_enter_41 ?_
          refine zz_aload_n C d_MM_enter_42 rfl ?_
          refine zz_iload_n C d_MM_enter_43 rfl ?_
          refine mc_Vi C (mw_0 Nat.zero_lt_one) rfl s_MM_82 (c_MM_nearest I (m_idle_thr h5)) rfl rfl d_MM_enter_44 k_MM_nearest ⟨by decide, by decide⟩ rfl ?_
          refine zz_icmp_eq (tgt := 53) C d_MM_enter_47 (by decide) (fun h47 => ?_) (fun h47 => ?_)
          · refine zz_aload_n C d_MM_enter_53 rfl ?_
            refine zz_get C (ci := 4) (N := 16) 11 rfl zi_MM (by decide) fl_MM_45 (mw_0 Nat.zero_lt_one) rfl d_MM_enter_54 ?_
            refine zz_iload_n C d_MM_enter_57 rfl ?_
            refine zz_iald C (t0 := 0) rfl (mw_11 Nat.zero_lt_one) (m_idle_thr h5) d_MM_enter_58 ?_
            refine zz_bipush (x := 12) C d_MM_enter_59 rfl ?_
            refine zz_icmp_ne (tgt := 67) C d_MM_enter_61 (by decide) (fun h61 => ?_) (fun h61 => ?_)
            · refine zz_aload_n C d_MM_enter_67 rfl ?_
              refine zz_get C (ci := 4) (N := 16) 2 rfl zi_MM (by decide) fl_MM_17 (mw_0 Nat.zero_lt_one) rfl d_MM_enter_68 ?_
              refine zz_iload_n C d_MM_enter_71 rfl ?_
              refine zz_iald C (t0 := 0) rfl (mw_2 Nat.zero_lt_one) (m_scope_in I h13) d_MM_enter_72 ?_
              refine zz_if_ne (tgt := 87) C d_MM_enter_73 (by decide) (fun h73 => ?_) (fun h73 => ?_)
              · refine zz_aload_n C d_MM_enter_87 rfl ?_
                refine zz_iload_n C d_MM_enter_88 rfl ?_
                refine zz_iload_n C d_MM_enter_89 rfl ?_
                refine zz_aload_n C d_MM_enter_90 rfl ?_
                refine zz_get C (ci := 4) (N := 16) 11 rfl zi_MM (by decide) fl_MM_45 (mw_0 Nat.zero_lt_one) rfl d_MM_enter_91 ?_
                refine zz_iload_n C d_MM_enter_94 rfl ?_
                refine zz_iald C (t0 := 0) rfl (mw_11 Nat.zero_lt_one) (m_idle_thr h5) d_MM_enter_95 ?_
                refine zz_iconst (x := 1) C d_MM_enter_96 rfl ?_
                refine zz_isub C d_MM_enter_97 ?_
                refine zz_iconst (x := 1) C d_MM_enter_98 rfl ?_
                refine mc_Vi C (mw_0 Nat.zero_lt_one) rfl s_MM_64 (c_MM_step (m_idle_thr h5) (m_len_in (σ := σ) I (z_vlt (m_idle_thr h5)) h61)) rfl rfl d_MM_enter_99 k_MM_step ⟨by decide, by decide⟩ rfl ?_
                refine zz_pop C d_MM_enter_102 rfl ?_
                refine zz_aload_n C d_MM_enter_103 rfl ?_
                refine zz_get C (ci := 4) (N := 16) 2 rfl zi_MM (by decide) fl_MM_17 (mw_0 Nat.zero_lt_one) rfl d_MM_enter_104 ?_
                refine zz_iload_n C d_MM_enter_107 rfl ?_
                refine zz_dup2 C d_MM_enter_108 rfl rfl ?_
                refine zz_iald C (t0 := 0) rfl (mw_2 Nat.zero_lt_one) (m_scope_in I h13) d_MM_enter_109 ?_
                refine zz_iconst (x := 1) C d_MM_enter_110 rfl ?_
                refine zz_iadd C d_MM_enter_111 ?_
                refine ms_2 C Nat.zero_lt_one (m_scope_in I h13) d_MM_enter_112 ?_
                refine zz_aload_n C d_MM_enter_113 rfl ?_
                refine zz_get C (ci := 4) (N := 16) 2 rfl zi_MM (by decide) fl_MM_17 (mw_0 Nat.zero_lt_one) rfl d_MM_enter_114 ?_
                refine zz_iload_n C d_MM_enter_117 rfl ?_
                refine zz_iald C (t0 := 0) rfl (mw_2 Nat.zero_lt_one) (m_scope_in I h13) d_MM_enter_118 ?_
                exact mr_i C hr rfl d_MM_enter_119 (by simp only [mf_enter, mf_enterR, mf_enterT, mf_enterS, if_pos h5, if_pos h13, if_neg h24, if_neg h33, if_pos h47, if_neg h61, if_neg h73] <;> simp [mf_enter, mf_enterR, mf_enterT, mf_enterS, mf_step, z_at]) (by simp only [mf_enter, mf_enterR, mf_enterT, mf_enterS, if_pos h5, if_pos h13, if_neg h24, if_neg h33, if_pos h47, if_neg h61, if_neg h73] <;> simp [mf_enter, mf_enterR, mf_enterT, mf_enterS, mf_step, z_at])
              · refine zz_aload_n C d_MM_enter_76 rfl ?_
                refine zz_get C (ci := 4) (N := 16) 3 rfl zi_MM (by decide) fl_MM_20 (mw_0 Nat.zero_lt_one) rfl d_MM_enter_77 ?_
                refine zz_iload_n C d_MM_enter_80 rfl ?_
                refine zz_aload_n C d_MM_enter_81 rfl ?_
                refine zz_iload_n C d_MM_enter_82 rfl ?_
                refine mc_Vi C (mw_0 Nat.zero_lt_one) rfl s_MM_82 (c_MM_nearest I (m_idle_thr h5)) rfl rfl d_MM_enter_83 k_MM_nearest ⟨by decide, by decide⟩ rfl ?_
                refine ms_3 C Nat.zero_lt_one (m_scope_in I h13) d_MM_enter_86 ?_
                refine zz_aload_n C d_MM_enter_87 rfl ?_
                refine zz_iload_n C d_MM_enter_88 rfl ?_
                refine zz_iload_n C d_MM_enter_89 rfl ?_
                refine zz_aload_n C d_MM_enter_90 rfl ?_
                refine zz_get C (ci := 4) (N := 16) 11 rfl zi_MM (by decide) fl_MM_45 (mw_0 Nat.zero_lt_one) rfl d_MM_enter_91 ?_
                refine zz_iload_n C d_MM_enter_94 rfl ?_
                refine zz_iald C (t0 := 0) rfl (mw_11 Nat.zero_lt_one) (m_idle_thr h5) d_MM_enter_95 ?_
                refine zz_iconst (x := 1) C d_MM_enter_96 rfl ?_
                refine zz_isub C d_MM_enter_97 ?_
                refine zz_iconst (x := 1) C d_MM_enter_98 rfl ?_
                refine mc_Vi C (mw_0 Nat.zero_lt_one) rfl s_MM_64 (c_MM_step (m_idle_thr h5) (m_len_in (σ := σ) I (z_vlt (m_idle_thr h5)) h61)) rfl rfl d_MM_enter_99 k_MM_step ⟨by decide, by decide⟩ rfl ?_
                refine zz_pop C d_MM_enter_102 rfl ?_
                refine zz_aload_n C d_MM_enter_103 rfl ?_
                refine zz_get C (ci := 4) (N := 16) 2 rfl zi_MM (by decide) fl_MM_17 (mw_0 Nat.zero_lt_one) rfl d_MM_enter_104 ?_
                refine zz_iload_n C d_MM_enter_107 rfl ?_
                refine zz_dup2 C d_MM_enter_108 rfl rfl ?_
                refine zz_iald C (t0 := 0) rfl (mw_2 Nat.zero_lt_one) (m_scope_in I h13) d_MM_enter_109 ?_
                refine zz_iconst (x := 1) C d_MM_enter_110 rfl ?_
                refine zz_iadd C d_MM_enter_111 ?_
                refine ms_2 C Nat.zero_lt_one (m_scope_in I h13) d_MM_enter_112 ?_
                refine zz_aload_n C d_MM_enter_113 rfl ?_
                refine zz_get C (ci := 4) (N := 16) 2 rfl zi_MM (by decide) fl_MM_17 (mw_0 Nat.zero_lt_one) rfl d_MM_enter_114 ?_
                refine zz_iload_n C d_MM_enter_117 rfl ?_
                refine zz_iald C (t0 := 0) rfl (mw_2 Nat.zero_lt_one) (m_scope_in I h13) d_MM_enter_118 ?_
                exact mr_i C hr rfl d_MM_enter_119 (by simp only [mf_enter, mf_enterR, mf_enterT, mf_enterS, if_pos h5, if_pos h13, if_neg h24, if_neg h33, if_pos h47, if_neg h61, if_pos h73] <;> simp [mf_enter, mf_enterR, mf_enterT, mf_enterS, mf_step, z_at]) (by simp only [mf_enter, mf_enterR, mf_enterT, mf_enterS, if_pos h5, if_pos h13, if_neg h24, if_neg h33, if_pos h47, if_neg h61, if_pos h73] <;> simp [mf_enter, mf_enterR, mf_enterT, mf_enterS, mf_step, z_at])
            · refine zz_bipush (x := -2) C d_MM_enter_64 rfl ?_
              exact mr_i C hr rfl d_MM_enter_66 (by simp only [mf_enter, mf_enterR, mf_enterT, mf_enterS, if_pos h5, if_pos h13, if_neg h24, if_neg h33, if_pos h47, if_pos h61] <;> simp [mf_enter, mf_enterR, mf_enterT, mf_enterS, mf_step, z_at]) (by simp only [mf_enter, mf_enterR, mf_enterT, mf_enterS, if_pos h5, if_pos h13, if_neg h24, if_neg h33, if_pos h47, if_pos h61] <;> simp [mf_enter, mf_enterR, mf_enterT, mf_enterS, mf_step, z_at])
          · refine zz_bipush (x := -3) C d_MM_enter_50 rfl ?_
            exact mr_i C hr rfl d_MM_enter_52 (by simp only [mf_enter, mf_enterR, mf_enterT, mf_enterS, if_pos h5, if_pos h13, if_neg h24, if_neg h33, if_neg h47] <;> simp [mf_enter, mf_enterR, mf_enterT, mf_enterS, mf_step, z_at]) (by simp only [mf_enter, mf_enterR, mf_enterT, mf_enterS, if_pos h5, if_pos h13, if_neg h24, if_neg h33, if_neg h47] <;> simp [mf_enter, mf_enterR, mf_enterT, mf_enterS, mf_step, z_at])
    · refine zz_iconst (x := -1) C d_MM_enter_16 rfl ?_
      exact mr_i C hr rfl d_MM_enter_17 (by simp only [mf_enter, mf_enterR, mf_enterT, mf_enterS, if_pos h5, if_neg h13] <;> simp [mf_enter, mf_enterR, mf_enterT, mf_enterS, mf_step, z_at]) (by simp only [mf_enter, mf_enterR, mf_enterT, mf_enterS, if_pos h5, if_neg h13] <;> simp [mf_enter, mf_enterR, mf_enterT, mf_enterS, mf_step, z_at])
set_option maxHeartbeats 400000 in
set_option maxRecDepth 100000 in
theorem c_MM_current {l : Launch} {D : va_G} {dA : Nat → ClassId} {lo n : Nat} {σ : zS} {t : Int32} (ht : vp_in t 4) (hk : vp_in (σ 11 0 (z_ix t) - 1) 12) : mM l y_MM_current b_MM_current 2 (some .int) 0 D dA lo n [.ref (ma0 lo 0), .int t] σ (some (.int (mf_current σ t))) σ := by
  refine zM_of (lv0 := [(0, .ref (ma0 lo 0)), (1, .int t)]) (by decide) rfl rfl rfl ?_
  intro p e s m below meth c C hr hnm hsz
  have C : zC p s m ([.ref (ma0 lo 0), .int t] : List Value).toArray meth c b_MM_current 2 R_MM D dA := C
  refine zz_aload_n C d_MM_current_0 rfl ?_
  refine zz_get C (ci := 4) (N := 16) 12 rfl zi_MM (by decide) fl_MM_48 (mw_0 Nat.zero_lt_one) rfl d_MM_current_1 ?_
  refine zz_iload_n C d_MM_current_4 rfl ?_
  refine zz_bipush (x := 12) C d_MM_current_5 rfl ?_
  refine zz_imul C d_MM_current_7 ?_
  refine zz_aload_n C d_MM_current_8 rfl ?_
  refine zz_get C (ci := 4) (N := 16) 11 rfl zi_MM (by decide) fl_MM_45 (mw_0 Nat.zero_lt_one) rfl d_MM_current_9 ?_
  refine zz_iload_n C d_MM_current_12 rfl ?_
  refine zz_iald C (t0 := 0) rfl (mw_11 Nat.zero_lt_one) ht d_MM_current_13 ?_
  refine zz_iadd C d_MM_current_14 ?_
  refine zz_iconst (x := 1) C d_MM_current_15 rfl ?_
  refine zz_isub C d_MM_current_16 ?_
  refine zz_iald C (t0 := 0) rfl (mw_12 Nat.zero_lt_one) (by rw [m_ct]; exact m_ix ht hk) d_MM_current_17 ?_
  exact mr_i C hr rfl d_MM_current_18 (by first | rfl | simp [mf_current, z_at]) rfl
set_option maxHeartbeats 400000 in
set_option maxRecDepth 100000 in
theorem c_MM_sees {l : Launch} {D : va_G} {dA : Nat → ClassId} {lo n : Nat} {σ : zS} {t o : Int32} (I : mI σ) (ht : vp_in t 4) (ho : vp_in o 40) : mM l y_MM_sees b_MM_sees 3 (some .boolean) 2 D dA lo n [.ref (ma0 lo 0), .int t, .int o] σ (some (.int (mf_sees σ t o))) σ := by
  refine zM_of (lv0 := [(0, .ref (ma0 lo 0)), (1, .int t), (2, .int o)]) (by decide) rfl rfl rfl ?_
  intro p e s m below meth c C hr hnm hsz
  have C : zC p s m ([.ref (ma0 lo 0), .int t, .int o] : List Value).toArray meth c b_MM_sees 3 R_MM D dA := C
  refine zz_aload_n C d_MM_sees_0 rfl ?_
  refine zz_get C (ci := 4) (N := 16) 5 rfl zi_MM (by decide) fl_MM_26 (mw_0 Nat.zero_lt_one) rfl d_MM_sees_1 ?_
  refine zz_iload_n C d_MM_sees_4 rfl ?_
  refine zz_iald C (t0 := 0) rfl (mw_5 Nat.zero_lt_one) ho d_MM_sees_5 ?_
  refine zz_if_ne (tgt := 24) C d_MM_sees_6 (by decide) (fun h6 => ?_) (fun h6 => ?_)
  · refine zz_aload_n C d_MM_sees_24 rfl ?_
    refine zz_get C (ci := 4) (N := 16) 5 rfl zi_MM (by decide) fl_MM_26 (mw_0 Nat.zero_lt_one) rfl d_MM_sees_25 ?_
    refine zz_iload_n C d_MM_sees_28 rfl ?_
    refine zz_iald C (t0 := 0) rfl (mw_5 Nat.zero_lt_one) ho d_MM_sees_29 ?_
    refine zz_iconst (x := 1) C d_MM_sees_30 rfl ?_
    refine zz_icmp_eq (tgt := 48) C d_MM_sees_31 (by decide) (fun h31 => ?_) (fun h31 => ?_)
    · refine zz_iconst (x := 1) C d_MM_sees_48 rfl ?_
      refine zz_goto (tgt := 53) C d_MM_sees_49 (by decide) ?_
      exact mr_i C hr rfl d_MM_sees_53 (by simp only [mf_sees, if_neg h6, if_pos h31] <;> simp [mf_sees, z_at]) rfl
    · refine zz_aload_n C d_MM_sees_34 rfl ?_
      refine zz_iload_n C d_MM_sees_35 rfl ?_
      refine zz_aload_n C d_MM_sees_36 rfl ?_
      refine zz_get C (ci := 4) (N := 16) 5 rfl zi_MM (by decide) fl_MM_26 (mw_0 Nat.zero_lt_one) rfl d_MM_sees_37 ?_
      refine zz_iload_n C d_MM_sees_40 rfl ?_
      refine zz_iald C (t0 := 0) rfl (mw_5 Nat.zero_lt_one) ho d_MM_sees_41 ?_
      refine mc_Vi C (mw_0 Nat.zero_lt_one) rfl s_MM_79 (c_MM_stepWith I ht) rfl rfl d_MM_sees_42 k_MM_stepWith ⟨by decide, by decide⟩ rfl ?_
      refine zz_if_lt (tgt := 52) C d_MM_sees_45 (by decide) (fun h45 => ?_) (fun h45 => ?_)
      · refine zz_iconst (x := 0) C d_MM_sees_52 rfl ?_
        exact mr_i C hr rfl d_MM_sees_53 (by simp only [mf_sees, if_neg h6, if_neg h31, if_pos h45] <;> simp [mf_sees, z_at]) rfl
      · refine zz_iconst (x := 1) C d_MM_sees_48 rfl ?_
        refine zz_goto (tgt := 53) C d_MM_sees_49 (by decide) ?_
        exact mr_i C hr rfl d_MM_sees_53 (by simp only [mf_sees, if_neg h6, if_neg h31, if_neg h45] <;> simp [mf_sees, z_at]) rfl
  · refine zz_aload_n C d_MM_sees_9 rfl ?_
    refine zz_get C (ci := 4) (N := 16) 10 rfl zi_MM (by decide) fl_MM_42 (mw_0 Nat.zero_lt_one) rfl d_MM_sees_10 ?_
    refine zz_iload_n C d_MM_sees_13 rfl ?_
    refine zz_zald C (t0 := 1) rfl (mw_10 Nat.zero_lt_one) ht d_MM_sees_14 ?_
    refine zz_if_ne (tgt := 22) C d_MM_sees_15 (by decide) (fun h15 => ?_) (fun h15 => ?_)
    · refine zz_iconst (x := 0) C d_MM_sees_22 rfl ?_
      exact mr_i C hr rfl d_MM_sees_23 (by simp only [mf_sees, if_pos h6, if_neg h15] <;> simp [mf_sees, z_at]) rfl
    · refine zz_iconst (x := 1) C d_MM_sees_18 rfl ?_
      refine zz_goto (tgt := 23) C d_MM_sees_19 (by decide) ?_
      exact mr_i C hr rfl d_MM_sees_23 (by simp only [mf_sees, if_pos h6, if_pos h15] <;> simp [mf_sees, z_at]) rfl
set_option maxHeartbeats 400000 in
set_option maxRecDepth 100000 in
theorem c_MM_liesIn {l : Launch} {D : va_G} {dA : Nat → ClassId} {lo n : Nat} {σ : zS} {a z : Int32} (I : mI σ) (ha : z_o 10 a) : mM l y_MM_liesIn b_MM_liesIn 5 (some .boolean) 0 D dA lo n [.ref (ma0 lo 0), .int a, .int z] σ (some (.int (mf_liesIn σ a z))) σ := by
  refine zM_of (lv0 := [(0, .ref (ma0 lo 0)), (1, .int a), (2, .int z)]) (by decide) rfl rfl rfl ?_
  intro p e s m below meth c C hr hnm hsz
  have C : zC p s m ([.ref (ma0 lo 0), .int a, .int z] : List Value).toArray meth c b_MM_liesIn 5 R_MM D dA := C
  have loop : ∀ (k i : Nat) (q iv : Int32), iv = nI i → i + k = 10 → z_o 10 q → mf_li σ z k q = mf_liesIn σ a z → mZ p l e 0 s m ([.ref (ma0 lo 0), .int a, .int z] : List Value).toArray below meth c D dA lo 5 n (some (.int (mf_liesIn σ a z))) (σ) (σ) 5 [(0, .ref (ma0 lo 0)), (1, .int a), (2, .int z), (3, .int q), (4, .int iv)] [] := by
    intro k
    induction k with
    | zero =>
      intro i q iv hiv hik hq hres
      refine zz_iload C d_MM_liesIn_5 rfl ?_
      refine zz_bipush (x := 10) C d_MM_liesIn_7 rfl ?_
      refine zz_icmp_ge (tgt := 37) C d_MM_liesIn_9 (by decide) (fun h9 => ?_) (fun h9 => ?_)
      · refine zz_iconst (x := 0) C d_MM_liesIn_37 rfl ?_
        exact mr_i C hr rfl d_MM_liesIn_38 (by rw [← hres]; rfl) rfl
      · exact absurd (z_ge (N := 10) hiv rfl (by omega) (by omega)) h9
    | succ k ih =>
      intro i q iv hiv hik hq hres
      unfold mf_li at hres
      refine zz_iload C d_MM_liesIn_5 rfl ?_
      refine zz_bipush (x := 10) C d_MM_liesIn_7 rfl ?_
      refine zz_icmp_ge (tgt := 37) C d_MM_liesIn_9 (by decide) (fun h9 => ?_) (fun h9 => ?_)
      · exact absurd h9 (z_nge hiv rfl (show i < 10 by omega) (by decide))
      · refine zz_iload_n C d_MM_liesIn_12 rfl ?_
        refine zz_iconst (x := 1) C d_MM_liesIn_13 rfl ?_
        refine zz_icmp_le (tgt := 37) C d_MM_liesIn_14 (by decide) (fun h14 => ?_) (fun h14 => ?_)
        · refine zz_iconst (x := 0) C d_MM_liesIn_37 rfl ?_
          exact mr_i C hr rfl d_MM_liesIn_38 (by rw [← hres, if_pos h14]) rfl
        · refine zz_iload_n C d_MM_liesIn_17 rfl ?_
          refine zz_iload_n C d_MM_liesIn_18 rfl ?_
          refine zz_icmp_ne (tgt := 24) C d_MM_liesIn_19 (by decide) (fun h19 => ?_) (fun h19 => ?_)
          · refine zz_aload_n C d_MM_liesIn_24 rfl ?_
            refine zz_get C (ci := 4) (N := 16) 3 rfl zi_MM (by decide) fl_MM_20 (mw_0 Nat.zero_lt_one) rfl d_MM_liesIn_25 ?_
            refine zz_iload_n C d_MM_liesIn_28 rfl ?_
            refine zz_iald C (t0 := 0) rfl (mw_3 Nat.zero_lt_one) (m_gt1 hq h14) d_MM_liesIn_29 ?_
            refine zz_istore_n C d_MM_liesIn_30 (by decide) ?_
            refine zz_iinc (d' := 1) C d_MM_liesIn_31 rfl rfl (by decide) ?_
            refine zz_goto (tgt := 5) C d_MM_liesIn_34 (by decide) ?_
            refine zz_lv [0, 1, 2, 3, 4] rfl ?_
            exact ih (i + 1) _ _ (z_sI hiv) (by omega) (Or.inr (I.2.1 _ (z_vlt (m_gt1 hq h14)))) (by rw [← hres, if_neg h14, if_neg h19])
          · refine zz_iconst (x := 1) C d_MM_liesIn_22 rfl ?_
            exact mr_i C hr rfl d_MM_liesIn_23 (by rw [← hres, if_neg h14, if_pos h19]) rfl
  refine zz_iload_n C d_MM_liesIn_0 rfl ?_
  refine zz_istore_n C d_MM_liesIn_1 (by decide) ?_
  refine zz_iconst (x := 0) C d_MM_liesIn_2 rfl ?_
  refine zz_istore C d_MM_liesIn_3 (by decide) ?_
  refine zz_lv [0, 1, 2, 3, 4] rfl ?_
  exact loop 10 0 _ _ nI_0.symm rfl ha rfl
set_option maxHeartbeats 400000 in
set_option maxRecDepth 100000 in
theorem c_MM_mayPoint {l : Launch} {D : va_G} {dA : Nat → ClassId} {lo n : Nat} {σ : zS} {a o : Int32} (I : mI σ) (ha : z_o 10 a) (ho : vp_in o 40) : mM l y_MM_mayPoint b_MM_mayPoint 3 (some .boolean) 1 D dA lo n [.ref (ma0 lo 0), .int a, .int o] σ (some (.int (mf_mayPoint σ a o))) σ := by
  refine zM_of (lv0 := [(0, .ref (ma0 lo 0)), (1, .int a), (2, .int o)]) (by decide) rfl rfl rfl ?_
  intro p e s m below meth c C hr hnm hsz
  have C : zC p s m ([.ref (ma0 lo 0), .int a, .int o] : List Value).toArray meth c b_MM_mayPoint 3 R_MM D dA := C
  refine zz_aload_n C d_MM_mayPoint_0 rfl ?_
  refine zz_get C (ci := 4) (N := 16) 5 rfl zi_MM (by decide) fl_MM_26 (mw_0 Nat.zero_lt_one) rfl d_MM_mayPoint_1 ?_
  refine zz_iload_n C d_MM_mayPoint_4 rfl ?_
  refine zz_iald C (t0 := 0) rfl (mw_5 Nat.zero_lt_one) ho d_MM_mayPoint_5 ?_
  refine zz_iconst (x := 2) C d_MM_mayPoint_6 rfl ?_
  refine zz_icmp_lt (tgt := 29) C d_MM_mayPoint_7 (by decide) (fun h7 => ?_) (fun h7 => ?_)
  · refine zz_iconst (x := 1) C d_MM_mayPoint_29 rfl ?_
    refine zz_goto (tgt := 34) C d_MM_mayPoint_30 (by decide) ?_
    exact mr_i C hr rfl d_MM_mayPoint_34 (by simp only [mf_mayPoint, if_pos h7] <;> simp [mf_mayPoint, z_at]) rfl
  · refine zz_iload_n C d_MM_mayPoint_10 rfl ?_
    refine zz_iconst (x := 1) C d_MM_mayPoint_11 rfl ?_
    refine zz_icmp_le (tgt := 33) C d_MM_mayPoint_12 (by decide) (fun h12 => ?_) (fun h12 => ?_)
    · refine zz_iconst (x := 0) C d_MM_mayPoint_33 rfl ?_
      exact mr_i C hr rfl d_MM_mayPoint_34 (by simp only [mf_mayPoint, if_neg h7, if_pos h12] <;> simp [mf_mayPoint, z_at]) rfl
    · refine zz_aload_n C d_MM_mayPoint_15 rfl ?_
      refine zz_iload_n C d_MM_mayPoint_16 rfl ?_
      refine zz_aload_n C d_MM_mayPoint_17 rfl ?_
      refine zz_get C (ci := 4) (N := 16) 5 rfl zi_MM (by decide) fl_MM_26 (mw_0 Nat.zero_lt_one) rfl d_MM_mayPoint_18 ?_
      refine zz_iload_n C d_MM_mayPoint_21 rfl ?_
      refine zz_iald C (t0 := 0) rfl (mw_5 Nat.zero_lt_one) ho d_MM_mayPoint_22 ?_
      refine mc_Vi C (mw_0 Nat.zero_lt_one) rfl s_MM_98 (c_MM_liesIn I ha) rfl rfl d_MM_mayPoint_23 k_MM_liesIn ⟨by decide, by decide⟩ rfl ?_
      refine zz_if_eq (tgt := 33) C d_MM_mayPoint_26 (by decide) (fun h26 => ?_) (fun h26 => ?_)
      · refine zz_iconst (x := 0) C d_MM_mayPoint_33 rfl ?_
        exact mr_i C hr rfl d_MM_mayPoint_34 (by simp only [mf_mayPoint, if_neg h7, if_neg h12, if_pos h26] <;> simp [mf_mayPoint, z_at]) rfl
      · refine zz_iconst (x := 1) C d_MM_mayPoint_29 rfl ?_
        refine zz_goto (tgt := 34) C d_MM_mayPoint_30 (by decide) ?_
        exact mr_i C hr rfl d_MM_mayPoint_34 (by simp only [mf_mayPoint, if_neg h7, if_neg h12, if_neg h26] <;> simp [mf_mayPoint, z_at]) rfl
set_option maxHeartbeats 400000 in
set_option maxRecDepth 100000 in
theorem c_MM_turn {l : Launch} {D : va_G} {dA : Nat → ClassId} {lo n : Nat} {σ : zS} {t a : Int32} (I : mI σ) : mM l y_MM_turn b_MM_turn 4 (some .int) 2 D dA lo n [.ref (ma0 lo 0), .int t, .int a] σ (some (.int ((mf_turn σ t a).1))) ((mf_turn σ t a).2) := by
  refine zM_of (lv0 := [(0, .ref (ma0 lo 0)), (1, .int t), (2, .int a)]) (by decide) rfl rfl rfl ?_
  intro p e s m below meth c C hr hnm hsz
  have C : zC p s m ([.ref (ma0 lo 0), .int t, .int a] : List Value).toArray meth c b_MM_turn 4 R_MM D dA := C
  refine zz_aload_n C d_MM_turn_0 rfl ?_
  refine zz_iload_n C d_MM_turn_1 rfl ?_
  refine mc_Vi C (mw_0 Nat.zero_lt_one) rfl s_MM_72 c_MM_idle rfl rfl d_MM_turn_2 k_MM_idle ⟨by decide, by decide⟩ rfl ?_
  refine zz_if_ne (tgt := 16) C d_MM_turn_5 (by decide) (fun h5 => ?_) (fun h5 => ?_)
  · refine zz_iconst (x := -1) C d_MM_turn_16 rfl ?_
    exact mr_i C hr rfl d_MM_turn_17 (by simp only [mf_turn, mf_turn2, mf_turn3, if_neg h5] <;> simp [mf_turn, mf_turn2, mf_turn3, z_at]) (by simp only [mf_turn, mf_turn2, mf_turn3, if_neg h5] <;> simp [mf_turn, mf_turn2, mf_turn3, z_at])
  · refine zz_aload_n C d_MM_turn_8 rfl ?_
    refine zz_iload_n C d_MM_turn_9 rfl ?_
    refine mc_Vi C (mw_0 Nat.zero_lt_one) rfl s_MM_85 c_MM_noArea rfl rfl d_MM_turn_10 k_MM_noArea ⟨by decide, by decide⟩ rfl ?_
    refine zz_if_eq (tgt := 18) C d_MM_turn_13 (by decide) (fun h13 => ?_) (fun h13 => ?_)
    · refine zz_iload_n C d_MM_turn_18 rfl ?_
      refine zz_if_ne (tgt := 34) C d_MM_turn_19 (by decide) (fun h19 => ?_) (fun h19 => ?_)
      · refine zz_iload_n C d_MM_turn_34 rfl ?_
        refine zz_iconst (x := 2) C d_MM_turn_35 rfl ?_
        refine zz_icmp_ge (tgt := 43) C d_MM_turn_36 (by decide) (fun h36 => ?_) (fun h36 => ?_)
        · refine zz_aload_n C d_MM_turn_43 rfl ?_
          refine zz_iload_n C d_MM_turn_44 rfl ?_
          refine zz_iload_n C d_MM_turn_45 rfl ?_
          refine mc_Vi C (mw_0 Nat.zero_lt_one) rfl s_MM_79 (c_MM_stepWith I (m_idle_thr h5)) rfl rfl d_MM_turn_46 k_MM_stepWith ⟨by decide, by decide⟩ rfl ?_
          refine zz_istore_n C d_MM_turn_49 (by decide) ?_
          refine zz_iload_n C d_MM_turn_50 rfl ?_
          refine zz_iconst (x := 1) C d_MM_turn_51 rfl ?_
          refine zz_icmp_le (tgt := 62) C d_MM_turn_52 (by decide) (fun h52 => ?_) (fun h52 => ?_)
          · exact absurd h52 (m_21 h36)
          · refine zz_iload_n C d_MM_turn_55 rfl ?_
            refine zz_if_ge (tgt := 62) C d_MM_turn_56 (by decide) (fun h56 => ?_) (fun h56 => ?_)
            · refine zz_aload_n C d_MM_turn_62 rfl ?_
              refine zz_get C (ci := 4) (N := 16) 11 rfl zi_MM (by decide) fl_MM_45 (mw_0 Nat.zero_lt_one) rfl d_MM_turn_63 ?_
              refine zz_iload_n C d_MM_turn_66 rfl ?_
              refine zz_iald C (t0 := 0) rfl (mw_11 Nat.zero_lt_one) (m_idle_thr h5) d_MM_turn_67 ?_
              refine zz_bipush (x := 12) C d_MM_turn_68 rfl ?_
              refine zz_icmp_ne (tgt := 76) C d_MM_turn_70 (by decide) (fun h70 => ?_) (fun h70 => ?_)
              · refine zz_aload_n C d_MM_turn_76 rfl ?_
                refine zz_iload_n C d_MM_turn_77 rfl ?_
                refine zz_iload_n C d_MM_turn_78 rfl ?_
                refine zz_iload_n C d_MM_turn_79 rfl ?_
                refine zz_if_ge (tgt := 87) C d_MM_turn_80 (by decide) (fun h80 => ?_) (fun h80 => ?_)
                · refine zz_aload_n C d_MM_turn_87 rfl ?_
                  refine zz_get C (ci := 4) (N := 16) 13 rfl zi_MM (by decide) fl_MM_51 (mw_0 Nat.zero_lt_one) rfl d_MM_turn_88 ?_
                  refine zz_iload_n C d_MM_turn_91 rfl ?_
                  refine zz_bipush (x := 12) C d_MM_turn_92 rfl ?_
                  refine zz_imul C d_MM_turn_94 ?_
                  refine zz_iload_n C d_MM_turn_95 rfl ?_
                  refine zz_iadd C d_MM_turn_96 ?_
                  refine zz_iald C (t0 := 0) rfl (mw_13 Nat.zero_lt_one) (m_ix (m_idle_thr h5) (z_nle (m_stepWith_o I (m_idle_thr h5)) h80)) d_MM_turn_97 ?_
                  refine zz_iconst (x := 0) C d_MM_turn_98 rfl ?_
                  refine mc_Vi C (mw_0 Nat.zero_lt_one) rfl s_MM_64 (c_MM_step (m_idle_thr h5) (m_len_in (σ := σ) I (z_vlt (m_idle_thr h5)) h70)) rfl rfl d_MM_turn_99 k_MM_step ⟨by decide, by decide⟩ rfl ?_
                  exact mr_i C hr rfl d_MM_turn_102 (by simp only [mf_turn, mf_turn2, mf_turn3, if_pos h5, if_pos h13, if_neg h19, if_pos h36, if_neg h52, if_pos h56, if_neg h70, if_pos h80] <;> simp [mf_turn, mf_turn2, mf_turn3, z_at]) (by simp only [mf_turn, mf_turn2, mf_turn3, if_pos h5, if_pos h13, if_neg h19, if_pos h36, if_neg h52, if_pos h56, if_neg h70, if_pos h80] <;> simp [mf_turn, mf_turn2, mf_turn3, z_at])
                · exact absurd h56 h80
              · refine zz_bipush (x := -2) C d_MM_turn_73 rfl ?_
                exact mr_i C hr rfl d_MM_turn_75 (by simp only [mf_turn, mf_turn2, mf_turn3, if_pos h5, if_pos h13, if_neg h19, if_pos h36, if_neg h52, if_pos h56, if_pos h70] <;> simp [mf_turn, mf_turn2, mf_turn3, z_at]) (by simp only [mf_turn, mf_turn2, mf_turn3, if_pos h5, if_pos h13, if_neg h19, if_pos h36, if_neg h52, if_pos h56, if_pos h70] <;> simp [mf_turn, mf_turn2, mf_turn3, z_at])
            · refine zz_bipush (x := -4) C d_MM_turn_59 rfl ?_
              exact mr_i C hr rfl d_MM_turn_61 (by simp only [mf_turn, mf_turn2, mf_turn3, if_pos h5, if_pos h13, if_neg h19, if_pos h36, if_neg h52, if_neg h56] <;> simp [mf_turn, mf_turn2, mf_turn3, z_at]) (by simp only [mf_turn, mf_turn2, mf_turn3, if_pos h5, if_pos h13, if_neg h19, if_pos h36, if_neg h52, if_neg h56] <;> simp [mf_turn, mf_turn2, mf_turn3, z_at])
        · refine zz_iconst (x := -1) C d_MM_turn_39 rfl ?_
          refine zz_goto (tgt := 49) C d_MM_turn_40 (by decide) ?_
          refine zz_istore_n C d_MM_turn_49 (by decide) ?_
          refine zz_iload_n C d_MM_turn_50 rfl ?_
          refine zz_iconst (x := 1) C d_MM_turn_51 rfl ?_
          refine zz_icmp_le (tgt := 62) C d_MM_turn_52 (by decide) (fun h52 => ?_) (fun h52 => ?_)
          · refine zz_aload_n C d_MM_turn_62 rfl ?_
            refine zz_get C (ci := 4) (N := 16) 11 rfl zi_MM (by decide) fl_MM_45 (mw_0 Nat.zero_lt_one) rfl d_MM_turn_63 ?_
            refine zz_iload_n C d_MM_turn_66 rfl ?_
            refine zz_iald C (t0 := 0) rfl (mw_11 Nat.zero_lt_one) (m_idle_thr h5) d_MM_turn_67 ?_
            refine zz_bipush (x := 12) C d_MM_turn_68 rfl ?_
            refine zz_icmp_ne (tgt := 76) C d_MM_turn_70 (by decide) (fun h70 => ?_) (fun h70 => ?_)
            · refine zz_aload_n C d_MM_turn_76 rfl ?_
              refine zz_iload_n C d_MM_turn_77 rfl ?_
              refine zz_iload_n C d_MM_turn_78 rfl ?_
              refine zz_iload_n C d_MM_turn_79 rfl ?_
              refine zz_if_ge (tgt := 87) C d_MM_turn_80 (by decide) (fun h80 => ?_) (fun h80 => ?_)
              · exact absurd h80 (by decide)
              · refine zz_iconst (x := -1) C d_MM_turn_83 rfl ?_
                refine zz_goto (tgt := 98) C d_MM_turn_84 (by decide) ?_
                refine zz_iconst (x := 0) C d_MM_turn_98 rfl ?_
                refine mc_Vi C (mw_0 Nat.zero_lt_one) rfl s_MM_64 (c_MM_step (m_idle_thr h5) (m_len_in (σ := σ) I (z_vlt (m_idle_thr h5)) h70)) rfl rfl d_MM_turn_99 k_MM_step ⟨by decide, by decide⟩ rfl ?_
                exact mr_i C hr rfl d_MM_turn_102 (by simp only [mf_turn, mf_turn2, mf_turn3, if_pos h5, if_pos h13, if_neg h19, if_neg h36, if_pos h52, if_neg h70, if_neg h80] <;> simp [mf_turn, mf_turn2, mf_turn3, z_at]) (by simp only [mf_turn, mf_turn2, mf_turn3, if_pos h5, if_pos h13, if_neg h19, if_neg h36, if_pos h52, if_neg h70, if_neg h80] <;> simp [mf_turn, mf_turn2, mf_turn3, z_at])
            · refine zz_bipush (x := -2) C d_MM_turn_73 rfl ?_
              exact mr_i C hr rfl d_MM_turn_75 (by simp only [mf_turn, mf_turn2, mf_turn3, if_pos h5, if_pos h13, if_neg h19, if_neg h36, if_pos h52, if_pos h70] <;> simp [mf_turn, mf_turn2, mf_turn3, z_at]) (by simp only [mf_turn, mf_turn2, mf_turn3, if_pos h5, if_pos h13, if_neg h19, if_neg h36, if_pos h52, if_pos h70] <;> simp [mf_turn, mf_turn2, mf_turn3, z_at])
          · exact absurd (m_12 h36) h52
      · refine zz_aload_n C d_MM_turn_22 rfl ?_
        refine zz_get C (ci := 4) (N := 16) 10 rfl zi_MM (by decide) fl_MM_42 (mw_0 Nat.zero_lt_one) rfl d_MM_turn_23 ?_
        refine zz_iload_n C d_MM_turn_26 rfl ?_
        refine zz_zald C (t0 := 1) rfl (mw_10 Nat.zero_lt_one) (m_idle_thr h5) d_MM_turn_27 ?_
        refine zz_if_eq (tgt := 34) C d_MM_turn_28 (by decide) (fun h28 => ?_) (fun h28 => ?_)
        · refine zz_iload_n C d_MM_turn_34 rfl ?_
          refine zz_iconst (x := 2) C d_MM_turn_35 rfl ?_
          refine zz_icmp_ge (tgt := 43) C d_MM_turn_36 (by decide) (fun h36 => ?_) (fun h36 => ?_)
          · refine zz_aload_n C d_MM_turn_43 rfl ?_
            refine zz_iload_n C d_MM_turn_44 rfl ?_
            refine zz_iload_n C d_MM_turn_45 rfl ?_
            refine mc_Vi C (mw_0 Nat.zero_lt_one) rfl s_MM_79 (c_MM_stepWith I (m_idle_thr h5)) rfl rfl d_MM_turn_46 k_MM_stepWith ⟨by decide, by decide⟩ rfl ?_
            refine zz_istore_n C d_MM_turn_49 (by decide) ?_
            refine zz_iload_n C d_MM_turn_50 rfl ?_
            refine zz_iconst (x := 1) C d_MM_turn_51 rfl ?_
            refine zz_icmp_le (tgt := 62) C d_MM_turn_52 (by decide) (fun h52 => ?_) (fun h52 => ?_)
            · exact absurd h52 (m_21 h36)
            · refine zz_iload_n C d_MM_turn_55 rfl ?_
              refine zz_if_ge (tgt := 62) C d_MM_turn_56 (by decide) (fun h56 => ?_) (fun h56 => ?_)
              · refine zz_aload_n C d_MM_turn_62 rfl ?_
                refine zz_get C (ci := 4) (N := 16) 11 rfl zi_MM (by decide) fl_MM_45 (mw_0 Nat.zero_lt_one) rfl d_MM_turn_63 ?_
                refine zz_iload_n C d_MM_turn_66 rfl ?_
                refine zz_iald C (t0 := 0) rfl (mw_11 Nat.zero_lt_one) (m_idle_thr h5) d_MM_turn_67 ?_
                refine zz_bipush (x := 12) C d_MM_turn_68 rfl ?_
                refine zz_icmp_ne (tgt := 76) C d_MM_turn_70 (by decide) (fun h70 => ?_) (fun h70 => ?_)
                · refine zz_aload_n C d_MM_turn_76 rfl ?_
                  refine zz_iload_n C d_MM_turn_77 rfl ?_
                  refine zz_iload_n C d_MM_turn_78 rfl ?_
                  refine zz_iload_n C d_MM_turn_79 rfl ?_
                  refine zz_if_ge (tgt := 87) C d_MM_turn_80 (by decide) (fun h80 => ?_) (fun h80 => ?_)
                  · refine zz_aload_n C d_MM_turn_87 rfl ?_
                    refine zz_get C (ci := 4) (N := 16) 13 rfl zi_MM (by decide) fl_MM_51 (mw_0 Nat.zero_lt_one) rfl d_MM_turn_88 ?_
                    refine zz_iload_n C d_MM_turn_91 rfl ?_
                    refine zz_bipush (x := 12) C d_MM_turn_92 rfl ?_
                    refine zz_imul C d_MM_turn_94 ?_
                    refine zz_iload_n C d_MM_turn_95 rfl ?_
                    refine zz_iadd C d_MM_turn_96 ?_
                    refine zz_iald C (t0 := 0) rfl (mw_13 Nat.zero_lt_one) (m_ix (m_idle_thr h5) (z_nle (m_stepWith_o I (m_idle_thr h5)) h80)) d_MM_turn_97 ?_
                    refine zz_iconst (x := 0) C d_MM_turn_98 rfl ?_
                    refine mc_Vi C (mw_0 Nat.zero_lt_one) rfl s_MM_64 (c_MM_step (m_idle_thr h5) (m_len_in (σ := σ) I (z_vlt (m_idle_thr h5)) h70)) rfl rfl d_MM_turn_99 k_MM_step ⟨by decide, by decide⟩ rfl ?_
                    exact mr_i C hr rfl d_MM_turn_102 (by simp only [mf_turn, mf_turn2, mf_turn3, if_pos h5, if_pos h13, if_pos h19, if_pos h28, if_pos h36, if_neg h52, if_pos h56, if_neg h70, if_pos h80] <;> simp [mf_turn, mf_turn2, mf_turn3, z_at]) (by simp only [mf_turn, mf_turn2, mf_turn3, if_pos h5, if_pos h13, if_pos h19, if_pos h28, if_pos h36, if_neg h52, if_pos h56, if_neg h70, if_pos h80] <;> simp [mf_turn, mf_turn2, mf_turn3, z_at])
                  · exact absurd h56 h80
                · refine zz_bipush (x := -2) C d_MM_turn_73 rfl ?_
                  exact mr_i C hr rfl d_MM_turn_75 (by simp only [mf_turn, mf_turn2, mf_turn3, if_pos h5, if_pos h13, if_pos h19, if_pos h28, if_pos h36, if_neg h52, if_pos h56, if_pos h70] <;> simp [mf_turn, mf_turn2, mf_turn3, z_at]) (by simp only [mf_turn, mf_turn2, mf_turn3, if_pos h5, if_pos h13, if_pos h19, if_pos h28, if_pos h36, if_neg h52, if_pos h56, if_pos h70] <;> simp [mf_turn, mf_turn2, mf_turn3, z_at])
              · refine zz_bipush (x := -4) C d_MM_turn_59 rfl ?_
                exact mr_i C hr rfl d_MM_turn_61 (by simp only [mf_turn, mf_turn2, mf_turn3, if_pos h5, if_pos h13, if_pos h19, if_pos h28, if_pos h36, if_neg h52, if_neg h56] <;> simp [mf_turn, mf_turn2, mf_turn3, z_at]) (by simp only [mf_turn, mf_turn2, mf_turn3, if_pos h5, if_pos h13, if_pos h19, if_pos h28, if_pos h36, if_neg h52, if_neg h56] <;> simp [mf_turn, mf_turn2, mf_turn3, z_at])
          · refine zz_iconst (x := -1) C d_MM_turn_39 rfl ?_
            refine zz_goto (tgt := 49) C d_MM_turn_40 (by decide) ?_
            refine zz_istore_n C d_MM_turn_49 (by decide) ?_
            refine zz_iload_n C d_MM_turn_50 rfl ?_
            refine zz_iconst (x := 1) C d_MM_turn_51 rfl ?_
            refine zz_icmp_le (tgt := 62) C d_MM_turn_52 (by decide) (fun h52 => ?_) (fun h52 => ?_)
            · refine zz_aload_n C d_MM_turn_62 rfl ?_
              refine zz_get C (ci := 4) (N := 16) 11 rfl zi_MM (by decide) fl_MM_45 (mw_0 Nat.zero_lt_one) rfl d_MM_turn_63 ?_
              refine zz_iload_n C d_MM_turn_66 rfl ?_
              refine zz_iald C (t0 := 0) rfl (mw_11 Nat.zero_lt_one) (m_idle_thr h5) d_MM_turn_67 ?_
              refine zz_bipush (x := 12) C d_MM_turn_68 rfl ?_
              refine zz_icmp_ne (tgt := 76) C d_MM_turn_70 (by decide) (fun h70 => ?_) (fun h70 => ?_)
              · refine zz_aload_n C d_MM_turn_76 rfl ?_
                refine zz_iload_n C d_MM_turn_77 rfl ?_
                refine zz_iload_n C d_MM_turn_78 rfl ?_
                refine zz_iload_n C d_MM_turn_79 rfl ?_
                refine zz_if_ge (tgt := 87) C d_MM_turn_80 (by decide) (fun h80 => ?_) (fun h80 => ?_)
                · exact absurd h80 (by decide)
                · refine zz_iconst (x := -1) C d_MM_turn_83 rfl ?_
                  refine zz_goto (tgt := 98) C d_MM_turn_84 (by decide) ?_
                  refine zz_iconst (x := 0) C d_MM_turn_98 rfl ?_
                  refine mc_Vi C (mw_0 Nat.zero_lt_one) rfl s_MM_64 (c_MM_step (m_idle_thr h5) (m_len_in (σ := σ) I (z_vlt (m_idle_thr h5)) h70)) rfl rfl d_MM_turn_99 k_MM_step ⟨by decide, by decide⟩ rfl ?_
                  exact mr_i C hr rfl d_MM_turn_102 (by simp only [mf_turn, mf_turn2, mf_turn3, if_pos h5, if_pos h13, if_pos h19, if_pos h28, if_neg h36, if_pos h52, if_neg h70, if_neg h80] <;> simp [mf_turn, mf_turn2, mf_turn3, z_at]) (by simp only [mf_turn, mf_turn2, mf_turn3, if_pos h5, if_pos h13, if_pos h19, if_pos h28, if_neg h36, if_pos h52, if_neg h70, if_neg h80] <;> simp [mf_turn, mf_turn2, mf_turn3, z_at])
              · refine zz_bipush (x := -2) C d_MM_turn_73 rfl ?_
                exact mr_i C hr rfl d_MM_turn_75 (by simp only [mf_turn, mf_turn2, mf_turn3, if_pos h5, if_pos h13, if_pos h19, if_pos h28, if_neg h36, if_pos h52, if_pos h70] <;> simp [mf_turn, mf_turn2, mf_turn3, z_at]) (by simp only [mf_turn, mf_turn2, mf_turn3, if_pos h5, if_pos h13, if_pos h19, if_pos h28, if_neg h36, if_pos h52, if_pos h70] <;> simp [mf_turn, mf_turn2, mf_turn3, z_at])
            · exact absurd (m_12 h36) h52
        · refine zz_bipush (x := -5) C d_MM_turn_31 rfl ?_
          exact mr_i C hr rfl d_MM_turn_33 (by simp only [mf_turn, mf_turn2, mf_turn3, if_pos h5, if_pos h13, if_pos h19, if_neg h28] <;> simp [mf_turn, mf_turn2, mf_turn3, z_at]) (by simp only [mf_turn, mf_turn2, mf_turn3, if_pos h5, if_pos h13, if_pos h19, if_neg h28] <;> simp [mf_turn, mf_turn2, mf_turn3, z_at])
    · refine zz_iconst (x := -1) C d_MM_turn_16 rfl ?_
      exact mr_i C hr rfl d_MM_turn_17 (by simp only [mf_turn, mf_turn2, mf_turn3, if_pos h5, if_neg h13] <;> simp [mf_turn, mf_turn2, mf_turn3, z_at]) (by simp only [mf_turn, mf_turn2, mf_turn3, if_pos h5, if_neg h13] <;> simp [mf_turn, mf_turn2, mf_turn3, z_at])
set_option maxHeartbeats 400000 in
set_option maxRecDepth 100000 in
theorem c_MM_empty {l : Launch} {D : va_G} {dA : Nat → ClassId} {lo n : Nat} {σ : zS} {z : Int32} (hz : vp_in z 10) : mM l y_MM_empty b_MM_empty 3 none 0 D dA lo n [.ref (ma0 lo 0), .int z] σ none (mf_empty σ z) := by
  refine zM_of (lv0 := [(0, .ref (ma0 lo 0)), (1, .int z)]) (by decide) rfl rfl rfl ?_
  intro p e s m below meth c C hr hnm hsz
  have C : zC p s m ([.ref (ma0 lo 0), .int z] : List Value).toArray meth c b_MM_empty 3 R_MM D dA := C
  generalize hT : mf_em z 40 0 σ = T
  have loop : ∀ (k i : Nat) (iv : Int32) (σ1 : zS), iv = nI i → i + k = 40 → mf_em z k i σ1 = T → mZ p l e 0 s m ([.ref (ma0 lo 0), .int z] : List Value).toArray below meth c D dA lo 3 n none (mf_empty σ z) (σ1) 2 [(0, .ref (ma0 lo 0)), (1, .int z), (2, .int iv)] [] := by
    intro k
    induction k with
    | zero =>
      intro i iv σ1 hiv hik hres
      have hres : σ1 = T := hres
      refine zz_iload_n C d_MM_empty_2 rfl ?_
      refine zz_bipush (x := 40) C d_MM_empty_3 rfl ?_
      refine zz_icmp_ge (tgt := 31) C d_MM_empty_5 (by decide) (fun h5 => ?_) (fun h5 => ?_)
      · refine zz_aload_n C d_MM_empty_31 rfl ?_
        refine zz_get C (ci := 4) (N := 16) 4 rfl zi_MM (by decide) fl_MM_23 (mw_0 Nat.zero_lt_one) rfl d_MM_empty_32 ?_
        refine zz_iload_n C d_MM_empty_35 rfl ?_
        refine zz_iconst (x := -1) C d_MM_empty_36 rfl ?_
        refine ms_4 C Nat.zero_lt_one hz d_MM_empty_37 ?_
        exact mr_v C hr d_MM_empty_38 (by rw [hres, ← hT]; rfl)
      · exact absurd (z_ge (N := 40) hiv rfl (by omega) (by omega)) h5
    | succ k ih =>
      intro i iv σ1 hiv hik hres
      unfold mf_em at hres
      have hix : iv.toNatClampNeg = i := z_ixI hiv (by omega)
      refine zz_iload_n C d_MM_empty_2 rfl ?_
      refine zz_bipush (x := 40) C d_MM_empty_3 rfl ?_
      refine zz_icmp_ge (tgt := 31) C d_MM_empty_5 (by decide) (fun h5 => ?_) (fun h5 => ?_)
      · exact absurd h5 (z_nge hiv rfl (show i < 40 by omega) (by decide))
      · refine zz_aload_n C d_MM_empty_8 rfl ?_
        refine zz_get C (ci := 4) (N := 16) 5 rfl zi_MM (by decide) fl_MM_26 (mw_0 Nat.zero_lt_one) rfl d_MM_empty_9 ?_
        refine zz_iload_n C d_MM_empty_12 rfl ?_
        refine zz_iald C (t0 := 0) rfl (mw_5 Nat.zero_lt_one) (z_vinI hiv (by omega) (by decide)) d_MM_empty_13 ?_
        refine zz_iload_n C d_MM_empty_14 rfl ?_
        refine zz_icmp_ne (tgt := 25) C d_MM_empty_15 (by decide) (fun h15 => ?_) (fun h15 => ?_)
        · refine zz_iinc (d' := 1) C d_MM_empty_25 rfl rfl (by decide) ?_
          refine zz_goto (tgt := 2) C d_MM_empty_28 (by decide) ?_
          refine zz_lv [0, 1, 2] rfl ?_
          rw [hix] at h15
          exact ih (i + 1) _ _ (z_sI hiv) (by omega) (by rw [← hres, if_neg h15])
        · refine zz_aload_n C d_MM_empty_18 rfl ?_
          refine zz_get C (ci := 4) (N := 16) 5 rfl zi_MM (by decide) fl_MM_26 (mw_0 Nat.zero_lt_one) rfl d_MM_empty_19 ?_
          refine zz_iload_n C d_MM_empty_22 rfl ?_
          refine zz_iconst (x := -1) C d_MM_empty_23 rfl ?_
          refine ms_5 C Nat.zero_lt_one (z_vinI hiv (by omega) (by decide)) d_MM_empty_24 ?_
          refine zz_iinc (d' := 1) C d_MM_empty_25 rfl rfl (by decide) ?_
          refine zz_goto (tgt := 2) C d_MM_empty_28 (by decide) ?_
          refine zz_lv [0, 1, 2] rfl ?_
          rw [hix] at h15
          rw [hix]
          exact ih (i + 1) _ _ (z_sI hiv) (by omega) (by rw [← hres, if_pos h15])
  refine zz_iconst (x := 0) C d_MM_empty_0 rfl ?_
  refine zz_istore_n C d_MM_empty_1 (by decide) ?_
  refine zz_lv [0, 1, 2] rfl ?_
  exact loop 40 0 _ _ nI_0.symm rfl hT
set_option maxHeartbeats 400000 in
set_option maxRecDepth 100000 in
theorem c_MM_put {l : Launch} {D : va_G} {dA : Nat → ClassId} {lo n : Nat} {σ : zS} {t o f g : Int32} (I : mI σ) : mM l y_MM_put b_MM_put 5 (some .int) 3 D dA lo n [.ref (ma0 lo 0), .int t, .int o, .int f, .int g] σ (some (.int ((mf_put σ t o f g).1))) ((mf_put σ t o f g).2) := by
  refine zM_of (lv0 := [(0, .ref (ma0 lo 0)), (1, .int t), (2, .int o), (3, .int f), (4, .int g)]) (by decide) rfl rfl rfl ?_
  intro p e s m below meth c C hr hnm hsz
  have C : zC p s m ([.ref (ma0 lo 0), .int t, .int o, .int f, .int g] : List Value).toArray meth c b_MM_put 5 R_MM D dA := C
  refine zz_aload_n C d_MM_put_0 rfl ?_
  refine zz_iload_n C d_MM_put_1 rfl ?_
  refine mc_Vi C (mw_0 Nat.zero_lt_one) rfl s_MM_72 c_MM_idle rfl rfl d_MM_put_2 k_MM_idle ⟨by decide, by decide⟩ rfl ?_
  refine zz_if_ne (tgt := 40) C d_MM_put_5 (by decide) (fun h5 => ?_) (fun h5 => ?_)
  · refine zz_iconst (x := -1) C d_MM_put_40 rfl ?_
    exact mr_i C hr rfl d_MM_put_41 (by simp only [mf_put, mf_put2, if_neg h5] <;> simp [mf_put, mf_put2, z_at]) (by simp only [mf_put, mf_put2, if_neg h5] <;> simp [mf_put, mf_put2, z_at])
  · refine zz_aload_n C d_MM_put_8 rfl ?_
    refine zz_iload_n C d_MM_put_9 rfl ?_
    refine mc_Vi C (mw_0 Nat.zero_lt_one) rfl s_MM_102 c_MM_noObject rfl rfl d_MM_put_10 k_MM_noObject ⟨by decide, by decide⟩ rfl ?_
    refine zz_if_ne (tgt := 40) C d_MM_put_13 (by decide) (fun h13 => ?_) (fun h13 => ?_)
    · refine zz_iconst (x := -1) C d_MM_put_40 rfl ?_
      exact mr_i C hr rfl d_MM_put_41 (by simp only [mf_put, mf_put2, if_pos h5, if_neg h13] <;> simp [mf_put, mf_put2, z_at]) (by simp only [mf_put, mf_put2, if_pos h5, if_neg h13] <;> simp [mf_put, mf_put2, z_at])
    · refine zz_iload_n C d_MM_put_16 rfl ?_
      refine zz_if_lt (tgt := 40) C d_MM_put_17 (by decide) (fun h17 => ?_) (fun h17 => ?_)
      · refine zz_iconst (x := -1) C d_MM_put_40 rfl ?_
        exact mr_i C hr rfl d_MM_put_41 (by simp only [mf_put, mf_put2, if_pos h5, if_pos h13, if_pos h17] <;> simp [mf_put, mf_put2, z_at]) (by simp only [mf_put, mf_put2, if_pos h5, if_pos h13, if_pos h17] <;> simp [mf_put, mf_put2, z_at])
      · refine zz_iload_n C d_MM_put_20 rfl ?_
        refine zz_iconst (x := 3) C d_MM_put_21 rfl ?_
        refine zz_icmp_gt (tgt := 40) C d_MM_put_22 (by decide) (fun h22 => ?_) (fun h22 => ?_)
        · refine zz_iconst (x := -1) C d_MM_put_40 rfl ?_
          exact mr_i C hr rfl d_MM_put_41 (by simp only [mf_put, mf_put2, if_pos h5, if_pos h13, if_neg h17, if_pos h22] <;> simp [mf_put, mf_put2, z_at]) (by simp only [mf_put, mf_put2, if_pos h5, if_pos h13, if_neg h17, if_pos h22] <;> simp [mf_put, mf_put2, z_at])
        · refine zz_iload C d_MM_put_25 rfl ?_
          refine zz_iconst (x := -1) C d_MM_put_27 rfl ?_
          refine zz_icmp_eq (tgt := 42) C d_MM_put_28 (by decide) (fun h28 => ?_) (fun h28 => ?_)
          · refine zz_iload_n C d_MM_put_42 rfl ?_
            refine zz_aload_n C d_MM_put_43 rfl ?_
            refine zz_get C (ci := 4) (N := 16) 6 rfl zi_MM (by decide) fl_MM_29 (mw_0 Nat.zero_lt_one) rfl d_MM_put_44 ?_
            refine zz_iload_n C d_MM_put_47 rfl ?_
            refine zz_iald C (t0 := 0) rfl (mw_6 Nat.zero_lt_one) (m_obj h13) d_MM_put_48 ?_
            refine zz_icmp_lt (tgt := 54) C d_MM_put_49 (by decide) (fun h49 => ?_) (fun h49 => ?_)
            · refine zz_aload_n C d_MM_put_54 rfl ?_
              refine zz_iload_n C d_MM_put_55 rfl ?_
              refine zz_iload_n C d_MM_put_56 rfl ?_
              refine mc_Vi C (mw_0 Nat.zero_lt_one) rfl s_MM_105 (c_MM_sees I (m_idle_thr h5) (m_obj h13)) rfl rfl d_MM_put_57 k_MM_sees ⟨by decide, by decide⟩ rfl ?_
              refine zz_if_eq (tgt := 78) C d_MM_put_60 (by decide) (fun h60 => ?_) (fun h60 => ?_)
              · refine zz_bipush (x := -4) C d_MM_put_78 rfl ?_
                exact mr_i C hr rfl d_MM_put_80 (by simp only [mf_put, mf_put2, if_pos h5, if_pos h13, if_neg h17, if_neg h22, if_pos h28, if_pos h49, if_pos h60] <;> simp [mf_put, mf_put2, z_at]) (by simp only [mf_put, mf_put2, if_pos h5, if_pos h13, if_neg h17, if_neg h22, if_pos h28, if_pos h49, if_pos h60] <;> simp [mf_put, mf_put2, z_at])
              · refine zz_iload C d_MM_put_63 rfl ?_
                refine zz_if_lt (tgt := 81) C d_MM_put_65 (by decide) (fun h65 => ?_) (fun h65 => ?_)
                · refine zz_iload C d_MM_put_81 rfl ?_
                  refine zz_if_lt (tgt := 104) C d_MM_put_83 (by decide) (fun h83 => ?_) (fun h83 => ?_)
                  · refine zz_aload_n C d_MM_put_104 rfl ?_
                    refine zz_get C (ci := 4) (N := 16) 7 rfl zi_MM (by decide) fl_MM_32 (mw_0 Nat.zero_lt_one) rfl d_MM_put_105 ?_
                    refine zz_iload_n C d_MM_put_108 rfl ?_
                    refine zz_iconst (x := 4) C d_MM_put_109 rfl ?_
                    refine zz_imul C d_MM_put_110 ?_
                    refine zz_iload_n C d_MM_put_111 rfl ?_
                    refine zz_iadd C d_MM_put_112 ?_
                    refine zz_iload C d_MM_put_113 rfl ?_
                    refine ms_7 C Nat.zero_lt_one (m_ix4 (m_obj h13) (z_vin2 h17 h22 rfl)) d_MM_put_115 ?_
                    refine zz_iconst (x := 0) C d_MM_put_116 rfl ?_
                    exact mr_i C hr rfl d_MM_put_117 (by simp only [mf_put, mf_put2, if_pos h5, if_pos h13, if_neg h17, if_neg h22, if_pos h28, if_pos h49, if_neg h60, if_pos h65, if_pos h83] <;> simp [mf_put, mf_put2, z_at]) (by simp only [mf_put, mf_put2, if_pos h5, if_pos h13, if_neg h17, if_neg h22, if_pos h28, if_pos h49, if_neg h60, if_pos h65, if_pos h83] <;> simp [mf_put, mf_put2, z_at])
                  · exact absurd h65 h83
                · refine zz_aload_n C d_MM_put_68 rfl ?_
                  refine zz_iload_n C d_MM_put_69 rfl ?_
                  refine zz_iload C d_MM_put_70 rfl ?_
                  refine mc_Vi C (mw_0 Nat.zero_lt_one) rfl s_MM_105 (c_MM_sees I (m_idle_thr h5) (m_gin (σ := σ) h65 (Or.inl h28))) rfl rfl d_MM_put_72 k_MM_sees ⟨by decide, by decide⟩ rfl ?_
                  refine zz_if_ne (tgt := 81) C d_MM_put_75 (by decide) (fun h75 => ?_) (fun h75 => ?_)
                  · refine zz_iload C d_MM_put_81 rfl ?_
                    refine zz_if_lt (tgt := 104) C d_MM_put_83 (by decide) (fun h83 => ?_) (fun h83 => ?_)
                    · exact absurd h83 h65
                    · refine zz_aload_n C d_MM_put_86 rfl ?_
                      refine zz_aload_n C d_MM_put_87 rfl ?_
                      refine zz_get C (ci := 4) (N := 16) 5 rfl zi_MM (by decide) fl_MM_26 (mw_0 Nat.zero_lt_one) rfl d_MM_put_88 ?_
                      refine zz_iload_n C d_MM_put_91 rfl ?_
                      refine zz_iald C (t0 := 0) rfl (mw_5 Nat.zero_lt_one) (m_obj h13) d_MM_put_92 ?_
                      refine zz_iload C d_MM_put_93 rfl ?_
                      refine mc_Vi C (mw_0 Nat.zero_lt_one) rfl s_MM_108 (c_MM_mayPoint I (I.2.2.1 _ (z_vlt (m_obj h13))) (m_gin (σ := σ) h83 (Or.inl h28))) rfl rfl d_MM_put_95 k_MM_mayPoint ⟨by decide, by decide⟩ rfl ?_
                      refine zz_if_ne (tgt := 104) C d_MM_put_98 (by decide) (fun h98 => ?_) (fun h98 => ?_)
                      · refine zz_aload_n C d_MM_put_104 rfl ?_
                        refine zz_get C (ci := 4) (N := 16) 7 rfl zi_MM (by decide) fl_MM_32 (mw_0 Nat.zero_lt_one) rfl d_MM_put_105 ?_
                        refine zz_iload_n C d_MM_put_108 rfl ?_
                        refine zz_iconst (x := 4) C d_MM_put_109 rfl ?_
                        refine zz_imul C d_MM_put_110 ?_
                        refine zz_iload_n C d_MM_put_111 rfl ?_
                        refine zz_iadd C d_MM_put_112 ?_
                        refine zz_iload C d_MM_put_113 rfl ?_
                        refine ms_7 C Nat.zero_lt_one (m_ix4 (m_obj h13) (z_vin2 h17 h22 rfl)) d_MM_put_115 ?_
                        refine zz_iconst (x := 0) C d_MM_put_116 rfl ?_
                        exact mr_i C hr rfl d_MM_put_117 (by simp only [mf_put, mf_put2, if_pos h5, if_pos h13, if_neg h17, if_neg h22, if_pos h28, if_pos h49, if_neg h60, if_neg h65, if_neg h75, if_neg h83, if_neg h98] <;> simp [mf_put, mf_put2, z_at]) (by simp only [mf_put, mf_put2, if_pos h5, if_pos h13, if_neg h17, if_neg h22, if_pos h28, if_pos h49, if_neg h60, if_neg h65, if_neg h75, if_neg h83, if_neg h98] <;> simp [mf_put, mf_put2, z_at])
                      · refine zz_bipush (x := -5) C d_MM_put_101 rfl ?_
                        exact mr_i C hr rfl d_MM_put_103 (by simp only [mf_put, mf_put2, if_pos h5, if_pos h13, if_neg h17, if_neg h22, if_pos h28, if_pos h49, if_neg h60, if_neg h65, if_neg h75, if_neg h83, if_pos h98] <;> simp [mf_put, mf_put2, z_at]) (by simp only [mf_put, mf_put2, if_pos h5, if_pos h13, if_neg h17, if_neg h22, if_pos h28, if_pos h49, if_neg h60, if_neg h65, if_neg h75, if_neg h83, if_pos h98] <;> simp [mf_put, mf_put2, z_at])
                  · refine zz_bipush (x := -4) C d_MM_put_78 rfl ?_
                    exact mr_i C hr rfl d_MM_put_80 (by simp only [mf_put, mf_put2, if_pos h5, if_pos h13, if_neg h17, if_neg h22, if_pos h28, if_pos h49, if_neg h60, if_neg h65, if_pos h75] <;> simp [mf_put, mf_put2, z_at]) (by simp only [mf_put, mf_put2, if_pos h5, if_pos h13, if_neg h17, if_neg h22, if_pos h28, if_pos h49, if_neg h60, if_neg h65, if_pos h75] <;> simp [mf_put, mf_put2, z_at])
            · refine zz_iconst (x := -1) C d_MM_put_52 rfl ?_
              exact mr_i C hr rfl d_MM_put_53 (by simp only [mf_put, mf_put2, if_pos h5, if_pos h13, if_neg h17, if_neg h22, if_pos h28, if_neg h49] <;> simp [mf_put, mf_put2, z_at]) (by simp only [mf_put, mf_put2, if_pos h5, if_pos h13, if_neg h17, if_neg h22, if_pos h28, if_neg h49] <;> simp [mf_put, mf_put2, z_at])
          · refine zz_aload_n C d_MM_put_31 rfl ?_
            refine zz_iload C d_MM_put_32 rfl ?_
            refine mc_Vi C (mw_0 Nat.zero_lt_one) rfl s_MM_102 c_MM_noObject rfl rfl d_MM_put_34 k_MM_noObject ⟨by decide, by decide⟩ rfl ?_
            refine zz_if_eq (tgt := 42) C d_MM_put_37 (by decide) (fun h37 => ?_) (fun h37 => ?_)
            · refine zz_iload_n C d_MM_put_42 rfl ?_
              refine zz_aload_n C d_MM_put_43 rfl ?_
              refine zz_get C (ci := 4) (N := 16) 6 rfl zi_MM (by decide) fl_MM_29 (mw_0 Nat.zero_lt_one) rfl d_MM_put_44 ?_
              refine zz_iload_n C d_MM_put_47 rfl ?_
              refine zz_iald C (t0 := 0) rfl (mw_6 Nat.zero_lt_one) (m_obj h13) d_MM_put_48 ?_
              refine zz_icmp_lt (tgt := 54) C d_MM_put_49 (by decide) (fun h49 => ?_) (fun h49 => ?_)
              · refine zz_aload_n C d_MM_put_54 rfl ?_
                refine zz_iload_n C d_MM_put_55 rfl ?_
                refine zz_iload_n C d_MM_put_56 rfl ?_
                refine mc_Vi C (mw_0 Nat.zero_lt_one) rfl s_MM_105 (c_MM_sees I (m_idle_thr h5) (m_obj h13)) rfl rfl d_MM_put_57 k_MM_sees ⟨by decide, by decide⟩ rfl ?_
                refine zz_if_eq (tgt := 78) C d_MM_put_60 (by decide) (fun h60 => ?_) (fun h60 => ?_)
                · refine zz_bipush (x := -4) C d_MM_put_78 rfl ?_
                  exact mr_i C hr rfl d_MM_put_80 (by simp only [mf_put, mf_put2, if_pos h5, if_pos h13, if_neg h17, if_neg h22, if_neg h28, if_pos h37, if_pos h49, if_pos h60] <;> simp [mf_put, mf_put2, z_at]) (by simp only [mf_put, mf_put2, if_pos h5, if_pos h13, if_neg h17, if_neg h22, if_neg h28, if_pos h37, if_pos h49, if_pos h60] <;> simp [mf_put, mf_put2, z_at])
                · refine zz_iload C d_MM_put_63 rfl ?_
                  refine zz_if_lt (tgt := 81) C d_MM_put_65 (by decide) (fun h65 => ?_) (fun h65 => ?_)
                  · refine zz_iload C d_MM_put_81 rfl ?_
                    refine zz_if_lt (tgt := 104) C d_MM_put_83 (by decide) (fun h83 => ?_) (fun h83 => ?_)
                    · refine zz_aload_n C d_MM_put_104 rfl ?_
                      refine zz_get C (ci := 4) (N := 16) 7 rfl zi_MM (by decide) fl_MM_32 (mw_0 Nat.zero_lt_one) rfl d_MM_put_105 ?_
                      refine zz_iload_n C d_MM_put_108 rfl ?_
                      refine zz_iconst (x := 4) C d_MM_put_109 rfl ?_
                      refine zz_imul C d_MM_put_110 ?_
                      refine zz_iload_n C d_MM_put_111 rfl ?_
                      refine zz_iadd C d_MM_put_112 ?_
                      refine zz_iload C d_MM_put_113 rfl ?_
                      refine ms_7 C Nat.zero_lt_one (m_ix4 (m_obj h13) (z_vin2 h17 h22 rfl)) d_MM_put_115 ?_
                      refine zz_iconst (x := 0) C d_MM_put_116 rfl ?_
                      exact mr_i C hr rfl d_MM_put_117 (by simp only [mf_put, mf_put2, if_pos h5, if_pos h13, if_neg h17, if_neg h22, if_neg h28, if_pos h37, if_pos h49, if_neg h60, if_pos h65, if_pos h83] <;> simp [mf_put, mf_put2, z_at]) (by simp only [mf_put, mf_put2, if_pos h5, if_pos h13, if_neg h17, if_neg h22, if_neg h28, if_pos h37, if_pos h49, if_neg h60, if_pos h65, if_pos h83] <;> simp [mf_put, mf_put2, z_at])
                    · exact absurd h65 h83
                  · refine zz_aload_n C d_MM_put_68 rfl ?_
                    refine zz_iload_n C d_MM_put_69 rfl ?_
                    refine zz_iload C d_MM_put_70 rfl ?_
                    refine mc_Vi C (mw_0 Nat.zero_lt_one) rfl s_MM_105 (c_MM_sees I (m_idle_thr h5) (m_gin (σ := σ) h65 (Or.inr h37))) rfl rfl d_MM_put_72 k_MM_sees ⟨by decide, by decide⟩ rfl ?_
                    refine zz_if_ne (tgt := 81) C d_MM_put_75 (by decide) (fun h75 => ?_) (fun h75 => ?_)
                    · refine zz_iload C d_MM_put_81 rfl ?_
                      refine zz_if_lt (tgt := 104) C d_MM_put_83 (by decide) (fun h83 => ?_) (fun h83 => ?_)
                      · exact absurd h83 h65
                      · refine zz_aload_n C d_MM_put_86 rfl ?_
                        refine zz_aload_n C d_MM_put_87 rfl ?_
                        refine zz_get C (ci := 4) (N := 16) 5 rfl zi_MM (by decide) fl_MM_26 (mw_0 Nat.zero_lt_one) rfl d_MM_put_88 ?_
                        refine zz_iload_n C d_MM_put_91 rfl ?_
                        refine zz_iald C (t0 := 0) rfl (mw_5 Nat.zero_lt_one) (m_obj h13) d_MM_put_92 ?_
                        refine zz_iload C d_MM_put_93 rfl ?_
                        refine mc_Vi C (mw_0 Nat.zero_lt_one) rfl s_MM_108 (c_MM_mayPoint I (I.2.2.1 _ (z_vlt (m_obj h13))) (m_gin (σ := σ) h83 (Or.inr h37))) rfl rfl d_MM_put_95 k_MM_mayPoint ⟨by decide, by decide⟩ rfl ?_
                        refine zz_if_ne (tgt := 104) C d_MM_put_98 (by decide) (fun h98 => ?_) (fun h98 => ?_)
                        · refine zz_aload_n C d_MM_put_104 rfl ?_
                          refine zz_get C (ci := 4) (N := 16) 7 rfl zi_MM (by decide) fl_MM_32 (mw_0 Nat.zero_lt_one) rfl d_MM_put_105 ?_
                          refine zz_iload_n C d_MM_put_108 rfl ?_
                          refine zz_iconst (x := 4) C d_MM_put_109 rfl ?_
                          refine zz_imul C d_MM_put_110 ?_
                          refine zz_iload_n C d_MM_put_111 rfl ?_
                          refine zz_iadd C d_MM_put_112 ?_
                          refine zz_iload C d_MM_put_113 rfl ?_
                          refine ms_7 C Nat.zero_lt_one (m_ix4 (m_obj h13) (z_vin2 h17 h22 rfl)) d_MM_put_115 ?_
                          refine zz_iconst (x := 0) C d_MM_put_116 rfl ?_
                          exact mr_i C hr rfl d_MM_put_117 (by simp only [mf_put, mf_put2, if_pos h5, if_pos h13, if_neg h17, if_neg h22, if_neg h28, if_pos h37, if_pos h49, if_neg h60, if_neg h65, if_neg h75, if_neg h83, if_neg h98] <;> simp [mf_put, mf_put2, z_at]) (by simp only [mf_put, mf_put2, if_pos h5, if_pos h13, if_neg h17, if_neg h22, if_neg h28, if_pos h37, if_pos h49, if_neg h60, if_neg h65, if_neg h75, if_neg h83, if_neg h98] <;> simp [mf_put, mf_put2, z_at])
                        · refine zz_bipush (x := -5) C d_MM_put_101 rfl ?_
                          exact mr_i C hr rfl d_MM_put_103 (by simp only [mf_put, mf_put2, if_pos h5, if_pos h13, if_neg h17, if_neg h22, if_neg h28, if_pos h37, if_pos h49, if_neg h60, if_neg h65, if_neg h75, if_neg h83, if_pos h98] <;> simp [mf_put, mf_put2, z_at]) (by simp only [mf_put, mf_put2, if_pos h5, if_pos h13, if_neg h17, if_neg h22, if_neg h28, if_pos h37, if_pos h49, if_neg h60, if_neg h65, if_neg h75, if_neg h83, if_pos h98] <;> simp [mf_put, mf_put2, z_at])
                    · refine zz_bipush (x := -4) C d_MM_put_78 rfl ?_
                      exact mr_i C hr rfl d_MM_put_80 (by simp only [mf_put, mf_put2, if_pos h5, if_pos h13, if_neg h17, if_neg h22, if_neg h28, if_pos h37, if_pos h49, if_neg h60, if_neg h65, if_pos h75] <;> simp [mf_put, mf_put2, z_at]) (by simp only [mf_put, mf_put2, if_pos h5, if_pos h13, if_neg h17, if_neg h22, if_neg h28, if_pos h37, if_pos h49, if_neg h60, if_neg h65, if_pos h75] <;> simp [mf_put, mf_put2, z_at])
              · refine zz_iconst (x := -1) C d_MM_put_52 rfl ?_
                exact mr_i C hr rfl d_MM_put_53 (by simp only [mf_put, mf_put2, if_pos h5, if_pos h13, if_neg h17, if_neg h22, if_neg h28, if_pos h37, if_neg h49] <;> simp [mf_put, mf_put2, z_at]) (by simp only [mf_put, mf_put2, if_pos h5, if_pos h13, if_neg h17, if_neg h22, if_neg h28, if_pos h37, if_neg h49] <;> simp [mf_put, mf_put2, z_at])
            · refine zz_iconst (x := -1) C d_MM_put_40 rfl ?_
              exact mr_i C hr rfl d_MM_put_41 (by simp only [mf_put, mf_put2, if_pos h5, if_pos h13, if_neg h17, if_neg h22, if_neg h28, if_neg h37] <;> simp [mf_put, mf_put2, z_at]) (by simp only [mf_put, mf_put2, if_pos h5, if_pos h13, if_neg h17, if_neg h22, if_neg h28, if_neg h37] <;> simp [mf_put, mf_put2, z_at])
set_option maxHeartbeats 400000 in
set_option maxRecDepth 100000 in
theorem c_MM_get {l : Launch} {D : va_G} {dA : Nat → ClassId} {lo n : Nat} {σ : zS} {t o f : Int32} (I : mI σ) : mM l y_MM_get b_MM_get 5 (some .int) 3 D dA lo n [.ref (ma0 lo 0), .int t, .int o, .int f] σ (some (.int (mf_get σ t o f))) σ := by
  refine zM_of (lv0 := [(0, .ref (ma0 lo 0)), (1, .int t), (2, .int o), (3, .int f)]) (by decide) rfl rfl rfl ?_
  intro p e s m below meth c C hr hnm hsz
  have C : zC p s m ([.ref (ma0 lo 0), .int t, .int o, .int f] : List Value).toArray meth c b_MM_get 5 R_MM D dA := C
  refine zz_aload_n C d_MM_get_0 rfl ?_
  refine zz_iload_n C d_MM_get_1 rfl ?_
  refine mc_Vi C (mw_0 Nat.zero_lt_one) rfl s_MM_72 c_MM_idle rfl rfl d_MM_get_2 k_MM_idle ⟨by decide, by decide⟩ rfl ?_
  refine zz_if_ne (tgt := 30) C d_MM_get_5 (by decide) (fun h5 => ?_) (fun h5 => ?_)
  · refine zz_iconst (x := -1) C d_MM_get_30 rfl ?_
    exact mr_i C hr rfl d_MM_get_31 (by simp only [mf_get, if_neg h5] <;> simp [mf_get, z_at]) rfl
  · refine zz_aload_n C d_MM_get_8 rfl ?_
    refine zz_iload_n C d_MM_get_9 rfl ?_
    refine mc_Vi C (mw_0 Nat.zero_lt_one) rfl s_MM_102 c_MM_noObject rfl rfl d_MM_get_10 k_MM_noObject ⟨by decide, by decide⟩ rfl ?_
    refine zz_if_ne (tgt := 30) C d_MM_get_13 (by decide) (fun h13 => ?_) (fun h13 => ?_)
    · refine zz_iconst (x := -1) C d_MM_get_30 rfl ?_
      exact mr_i C hr rfl d_MM_get_31 (by simp only [mf_get, if_pos h5, if_neg h13] <;> simp [mf_get, z_at]) rfl
    · refine zz_iload_n C d_MM_get_16 rfl ?_
      refine zz_if_lt (tgt := 30) C d_MM_get_17 (by decide) (fun h17 => ?_) (fun h17 => ?_)
      · refine zz_iconst (x := -1) C d_MM_get_30 rfl ?_
        exact mr_i C hr rfl d_MM_get_31 (by simp only [mf_get, if_pos h5, if_pos h13, if_pos h17] <;> simp [mf_get, z_at]) rfl
      · refine zz_iload_n C d_MM_get_20 rfl ?_
        refine zz_aload_n C d_MM_get_21 rfl ?_
        refine zz_get C (ci := 4) (N := 16) 6 rfl zi_MM (by decide) fl_MM_29 (mw_0 Nat.zero_lt_one) rfl d_MM_get_22 ?_
        refine zz_iload_n C d_MM_get_25 rfl ?_
        refine zz_iald C (t0 := 0) rfl (mw_6 Nat.zero_lt_one) (m_obj h13) d_MM_get_26 ?_
        refine zz_icmp_lt (tgt := 32) C d_MM_get_27 (by decide) (fun h27 => ?_) (fun h27 => ?_)
        · refine zz_aload_n C d_MM_get_32 rfl ?_
          refine zz_iload_n C d_MM_get_33 rfl ?_
          refine zz_iload_n C d_MM_get_34 rfl ?_
          refine mc_Vi C (mw_0 Nat.zero_lt_one) rfl s_MM_105 (c_MM_sees I (m_idle_thr h5) (m_obj h13)) rfl rfl d_MM_get_35 k_MM_sees ⟨by decide, by decide⟩ rfl ?_
          refine zz_if_ne (tgt := 44) C d_MM_get_38 (by decide) (fun h38 => ?_) (fun h38 => ?_)
          · refine zz_aload_n C d_MM_get_44 rfl ?_
            refine zz_get C (ci := 4) (N := 16) 7 rfl zi_MM (by decide) fl_MM_32 (mw_0 Nat.zero_lt_one) rfl d_MM_get_45 ?_
            refine zz_iload_n C d_MM_get_48 rfl ?_
            refine zz_iconst (x := 4) C d_MM_get_49 rfl ?_
            refine zz_imul C d_MM_get_50 ?_
            refine zz_iload_n C d_MM_get_51 rfl ?_
            refine zz_iadd C d_MM_get_52 ?_
            refine zz_iald C (t0 := 0) rfl (mw_7 Nat.zero_lt_one) (m_ix4 (m_obj h13) (m_fw I (m_obj h13) h17 h27)) d_MM_get_53 ?_
            refine zz_istore C d_MM_get_54 (by decide) ?_
            refine zz_iload C d_MM_get_56 rfl ?_
            refine zz_if_ge (tgt := 66) C d_MM_get_58 (by decide) (fun h58 => ?_) (fun h58 => ?_)
            · refine zz_aload_n C d_MM_get_66 rfl ?_
              refine zz_iload_n C d_MM_get_67 rfl ?_
              refine zz_iload C d_MM_get_68 rfl ?_
              refine mc_Vi C (mw_0 Nat.zero_lt_one) rfl s_MM_105 (c_MM_sees I (m_idle_thr h5) (z_nle (I.2.2.2.2.1 _ (z_vlt (m_ix4 (m_obj h13) (m_fw I (m_obj h13) h17 h27)))) h58)) rfl rfl d_MM_get_70 k_MM_sees ⟨by decide, by decide⟩ rfl ?_
              refine zz_if_eq (tgt := 81) C d_MM_get_73 (by decide) (fun h73 => ?_) (fun h73 => ?_)
              · refine zz_bipush (x := -4) C d_MM_get_81 rfl ?_
                exact mr_i C hr rfl d_MM_get_83 (by simp only [mf_get, if_pos h5, if_pos h13, if_neg h17, if_pos h27, if_neg h38, if_pos h58, if_pos h73] <;> simp [mf_get, z_at]) rfl
              · refine zz_iload C d_MM_get_76 rfl ?_
                refine zz_goto (tgt := 83) C d_MM_get_78 (by decide) ?_
                exact mr_i C hr rfl d_MM_get_83 (by simp only [mf_get, if_pos h5, if_pos h13, if_neg h17, if_pos h27, if_neg h38, if_pos h58, if_neg h73] <;> simp [mf_get, z_at]) rfl
            · refine zz_bipush (x := -6) C d_MM_get_61 rfl ?_
              refine zz_goto (tgt := 83) C d_MM_get_63 (by decide) ?_
              exact mr_i C hr rfl d_MM_get_83 (by simp only [mf_get, if_pos h5, if_pos h13, if_neg h17, if_pos h27, if_neg h38, if_neg h58] <;> simp [mf_get, z_at]) rfl
          · refine zz_bipush (x := -4) C d_MM_get_41 rfl ?_
            exact mr_i C hr rfl d_MM_get_43 (by simp only [mf_get, if_pos h5, if_pos h13, if_neg h17, if_pos h27, if_pos h38] <;> simp [mf_get, z_at]) rfl
        · refine zz_iconst (x := -1) C d_MM_get_30 rfl ?_
          exact mr_i C hr rfl d_MM_get_31 (by simp only [mf_get, if_pos h5, if_pos h13, if_neg h17, if_neg h27] <;> simp [mf_get, z_at]) rfl
set_option maxHeartbeats 400000 in
set_option maxRecDepth 100000 in
theorem c_MM_hang {l : Launch} {D : va_G} {dA : Nat → ClassId} {lo n : Nat} {σ : zS} {t z o : Int32} (I : mI σ) : mM l y_MM_hang b_MM_hang 4 (some .int) 3 D dA lo n [.ref (ma0 lo 0), .int t, .int z, .int o] σ (some (.int ((mf_hang σ t z o).1))) ((mf_hang σ t z o).2) := by
  refine zM_of (lv0 := [(0, .ref (ma0 lo 0)), (1, .int t), (2, .int z), (3, .int o)]) (by decide) rfl rfl rfl ?_
  intro p e s m below meth c C hr hnm hsz
  have C : zC p s m ([.ref (ma0 lo 0), .int t, .int z, .int o] : List Value).toArray meth c b_MM_hang 4 R_MM D dA := C
  refine zz_aload_n C d_MM_hang_0 rfl ?_
  refine zz_iload_n C d_MM_hang_1 rfl ?_
  refine mc_Vi C (mw_0 Nat.zero_lt_one) rfl s_MM_72 c_MM_idle rfl rfl d_MM_hang_2 k_MM_idle ⟨by decide, by decide⟩ rfl ?_
  refine zz_if_ne (tgt := 29) C d_MM_hang_5 (by decide) (fun h5 => ?_) (fun h5 => ?_)
  · refine zz_iconst (x := -1) C d_MM_hang_29 rfl ?_
    exact mr_i C hr rfl d_MM_hang_30 (by simp only [mf_hang, mf_hang2, if_neg h5] <;> simp [mf_hang, mf_hang2, z_at]) (by simp only [mf_hang, mf_hang2, if_neg h5] <;> simp [mf_hang, mf_hang2, z_at])
  · refine zz_aload_n C d_MM_hang_8 rfl ?_
    refine zz_iload_n C d_MM_hang_9 rfl ?_
    refine mc_Vi C (mw_0 Nat.zero_lt_one) rfl s_MM_76 c_MM_noScope rfl rfl d_MM_hang_10 k_MM_noScope ⟨by decide, by decide⟩ rfl ?_
    refine zz_if_ne (tgt := 29) C d_MM_hang_13 (by decide) (fun h13 => ?_) (fun h13 => ?_)
    · refine zz_iconst (x := -1) C d_MM_hang_29 rfl ?_
      exact mr_i C hr rfl d_MM_hang_30 (by simp only [mf_hang, mf_hang2, if_pos h5, if_neg h13] <;> simp [mf_hang, mf_hang2, z_at]) (by simp only [mf_hang, mf_hang2, if_pos h5, if_neg h13] <;> simp [mf_hang, mf_hang2, z_at])
    · refine zz_iload_n C d_MM_hang_16 rfl ?_
      refine zz_iconst (x := -1) C d_MM_hang_17 rfl ?_
      refine zz_icmp_eq (tgt := 31) C d_MM_hang_18 (by decide) (fun h18 => ?_) (fun h18 => ?_)
      · refine zz_aload_n C d_MM_hang_31 rfl ?_
        refine zz_iload_n C d_MM_hang_32 rfl ?_
        refine zz_iload_n C d_MM_hang_33 rfl ?_
        refine mc_Vi C (mw_0 Nat.zero_lt_one) rfl s_MM_79 (c_MM_stepWith I (m_idle_thr h5)) rfl rfl d_MM_hang_34 k_MM_stepWith ⟨by decide, by decide⟩ rfl ?_
        refine zz_if_lt (tgt := 53) C d_MM_hang_37 (by decide) (fun h37 => ?_) (fun h37 => ?_)
        · refine zz_bipush (x := -4) C d_MM_hang_53 rfl ?_
          exact mr_i C hr rfl d_MM_hang_55 (by simp only [mf_hang, mf_hang2, if_pos h5, if_pos h13, if_pos h18, if_pos h37] <;> simp [mf_hang, mf_hang2, z_at]) (by simp only [mf_hang, mf_hang2, if_pos h5, if_pos h13, if_pos h18, if_pos h37] <;> simp [mf_hang, mf_hang2, z_at])
        · refine zz_iload_n C d_MM_hang_40 rfl ?_
          refine zz_if_lt (tgt := 56) C d_MM_hang_41 (by decide) (fun h41 => ?_) (fun h41 => ?_)
          · refine zz_iload_n C d_MM_hang_56 rfl ?_
            refine zz_if_lt (tgt := 73) C d_MM_hang_57 (by decide) (fun h57 => ?_) (fun h57 => ?_)
            · refine zz_aload_n C d_MM_hang_73 rfl ?_
              refine zz_get C (ci := 4) (N := 16) 4 rfl zi_MM (by decide) fl_MM_23 (mw_0 Nat.zero_lt_one) rfl d_MM_hang_74 ?_
              refine zz_iload_n C d_MM_hang_77 rfl ?_
              refine zz_iload_n C d_MM_hang_78 rfl ?_
              refine ms_4 C Nat.zero_lt_one (m_scope_in I h13) d_MM_hang_79 ?_
              refine zz_iconst (x := 0) C d_MM_hang_80 rfl ?_
              exact mr_i C hr rfl d_MM_hang_81 (by simp only [mf_hang, mf_hang2, if_pos h5, if_pos h13, if_pos h18, if_neg h37, if_pos h41, if_pos h57] <;> simp [mf_hang, mf_hang2, z_at]) (by simp only [mf_hang, mf_hang2, if_pos h5, if_pos h13, if_pos h18, if_neg h37, if_pos h41, if_pos h57] <;> simp [mf_hang, mf_hang2, z_at])
            · exact absurd h41 h57
          · refine zz_aload_n C d_MM_hang_44 rfl ?_
            refine zz_iload_n C d_MM_hang_45 rfl ?_
            refine zz_iload_n C d_MM_hang_46 rfl ?_
            refine mc_Vi C (mw_0 Nat.zero_lt_one) rfl s_MM_105 (c_MM_sees I (m_idle_thr h5) (m_gin (σ := σ) h41 (Or.inl h18))) rfl rfl d_MM_hang_47 k_MM_sees ⟨by decide, by decide⟩ rfl ?_
            refine zz_if_ne (tgt := 56) C d_MM_hang_50 (by decide) (fun h50 => ?_) (fun h50 => ?_)
            · refine zz_iload_n C d_MM_hang_56 rfl ?_
              refine zz_if_lt (tgt := 73) C d_MM_hang_57 (by decide) (fun h57 => ?_) (fun h57 => ?_)
              · exact absurd h57 h41
              · refine zz_aload_n C d_MM_hang_60 rfl ?_
                refine zz_get C (ci := 4) (N := 16) 5 rfl zi_MM (by decide) fl_MM_26 (mw_0 Nat.zero_lt_one) rfl d_MM_hang_61 ?_
                refine zz_iload_n C d_MM_hang_64 rfl ?_
                refine zz_iald C (t0 := 0) rfl (mw_5 Nat.zero_lt_one) (m_gin (σ := σ) h57 (Or.inl h18)) d_MM_hang_65 ?_
                refine zz_iload_n C d_MM_hang_66 rfl ?_
                refine zz_icmp_eq (tgt := 73) C d_MM_hang_67 (by decide) (fun h67 => ?_) (fun h67 => ?_)
                · refine zz_aload_n C d_MM_hang_73 rfl ?_
                  refine zz_get C (ci := 4) (N := 16) 4 rfl zi_MM (by decide) fl_MM_23 (mw_0 Nat.zero_lt_one) rfl d_MM_hang_74 ?_
                  refine zz_iload_n C d_MM_hang_77 rfl ?_
                  refine zz_iload_n C d_MM_hang_78 rfl ?_
                  refine ms_4 C Nat.zero_lt_one (m_scope_in I h13) d_MM_hang_79 ?_
                  refine zz_iconst (x := 0) C d_MM_hang_80 rfl ?_
                  exact mr_i C hr rfl d_MM_hang_81 (by simp only [mf_hang, mf_hang2, if_pos h5, if_pos h13, if_pos h18, if_neg h37, if_neg h41, if_neg h50, if_neg h57, if_pos h67] <;> simp [mf_hang, mf_hang2, z_at]) (by simp only [mf_hang, mf_hang2, if_pos h5, if_pos h13, if_pos h18, if_neg h37, if_neg h41, if_neg h50, if_neg h57, if_pos h67] <;> simp [mf_hang, mf_hang2, z_at])
                · refine zz_bipush (x := -5) C d_MM_hang_70 rfl ?_
                  exact mr_i C hr rfl d_MM_hang_72 (by simp only [mf_hang, mf_hang2, if_pos h5, if_pos h13, if_pos h18, if_neg h37, if_neg h41, if_neg h50, if_neg h57, if_neg h67] <;> simp [mf_hang, mf_hang2, z_at]) (by simp only [mf_hang, mf_hang2, if_pos h5, if_pos h13, if_pos h18, if_neg h37, if_neg h41, if_neg h50, if_neg h57, if_neg h67] <;> simp [mf_hang, mf_hang2, z_at])
            · refine zz_bipush (x := -4) C d_MM_hang_53 rfl ?_
              exact mr_i C hr rfl d_MM_hang_55 (by simp only [mf_hang, mf_hang2, if_pos h5, if_pos h13, if_pos h18, if_neg h37, if_neg h41, if_pos h50] <;> simp [mf_hang, mf_hang2, z_at]) (by simp only [mf_hang, mf_hang2, if_pos h5, if_pos h13, if_pos h18, if_neg h37, if_neg h41, if_pos h50] <;> simp [mf_hang, mf_hang2, z_at])
      · refine zz_aload_n C d_MM_hang_21 rfl ?_
        refine zz_iload_n C d_MM_hang_22 rfl ?_
        refine mc_Vi C (mw_0 Nat.zero_lt_one) rfl s_MM_102 c_MM_noObject rfl rfl d_MM_hang_23 k_MM_noObject ⟨by decide, by decide⟩ rfl ?_
        refine zz_if_eq (tgt := 31) C d_MM_hang_26 (by decide) (fun h26 => ?_) (fun h26 => ?_)
        · refine zz_aload_n C d_MM_hang_31 rfl ?_
          refine zz_iload_n C d_MM_hang_32 rfl ?_
          refine zz_iload_n C d_MM_hang_33 rfl ?_
          refine mc_Vi C (mw_0 Nat.zero_lt_one) rfl s_MM_79 (c_MM_stepWith I (m_idle_thr h5)) rfl rfl d_MM_hang_34 k_MM_stepWith ⟨by decide, by decide⟩ rfl ?_
          refine zz_if_lt (tgt := 53) C d_MM_hang_37 (by decide) (fun h37 => ?_) (fun h37 => ?_)
          · refine zz_bipush (x := -4) C d_MM_hang_53 rfl ?_
            exact mr_i C hr rfl d_MM_hang_55 (by simp only [mf_hang, mf_hang2, if_pos h5, if_pos h13, if_neg h18, if_pos h26, if_pos h37] <;> simp [mf_hang, mf_hang2, z_at]) (by simp only [mf_hang, mf_hang2, if_pos h5, if_pos h13, if_neg h18, if_pos h26, if_pos h37] <;> simp [mf_hang, mf_hang2, z_at])
          · refine zz_iload_n C d_MM_hang_40 rfl ?_
            refine zz_if_lt (tgt := 56) C d_MM_hang_41 (by decide) (fun h41 => ?_) (fun h41 => ?_)
            · refine zz_iload_n C d_MM_hang_56 rfl ?_
              refine zz_if_lt (tgt := 73) C d_MM_hang_57 (by decide) (fun h57 => ?_) (fun h57 => ?_)
              · refine zz_aload_n C d_MM_hang_73 rfl ?_
                refine zz_get C (ci := 4) (N := 16) 4 rfl zi_MM (by decide) fl_MM_23 (mw_0 Nat.zero_lt_one) rfl d_MM_hang_74 ?_
                refine zz_iload_n C d_MM_hang_77 rfl ?_
                refine zz_iload_n C d_MM_hang_78 rfl ?_
                refine ms_4 C Nat.zero_lt_one (m_scope_in I h13) d_MM_hang_79 ?_
                refine zz_iconst (x := 0) C d_MM_hang_80 rfl ?_
                exact mr_i C hr rfl d_MM_hang_81 (by simp only [mf_hang, mf_hang2, if_pos h5, if_pos h13, if_neg h18, if_pos h26, if_neg h37, if_pos h41, if_pos h57] <;> simp [mf_hang, mf_hang2, z_at]) (by simp only [mf_hang, mf_hang2, if_pos h5, if_pos h13, if_neg h18, if_pos h26, if_neg h37, if_pos h41, if_pos h57] <;> simp [mf_hang, mf_hang2, z_at])
              · exact absurd h41 h57
            · refine zz_aload_n C d_MM_hang_44 rfl ?_
              refine zz_iload_n C d_MM_hang_45 rfl ?_
              refine zz_iload_n C d_MM_hang_46 rfl ?_
              refine mc_Vi C (mw_0 Nat.zero_lt_one) rfl s_MM_105 (c_MM_sees I (m_idle_thr h5) (m_gin (σ := σ) h41 (Or.inr h26))) rfl rfl d_MM_hang_47 k_MM_sees ⟨by decide, by decide⟩ rfl ?_
              refine zz_if_ne (tgt := 56) C d_MM_hang_50 (by decide) (fun h50 => ?_) (fun h50 => ?_)
              · refine zz_iload_n C d_MM_hang_56 rfl ?_
                refine zz_if_lt (tgt := 73) C d_MM_hang_57 (by decide) (fun h57 => ?_) (fun h57 => ?_)
                · exact absurd h57 h41
                · refine zz_aload_n C d_MM_hang_60 rfl ?_
                  refine zz_get C (ci := 4) (N := 16) 5 rfl zi_MM (by decide) fl_MM_26 (mw_0 Nat.zero_lt_one) rfl d_MM_hang_61 ?_
                  refine zz_iload_n C d_MM_hang_64 rfl ?_
                  refine zz_iald C (t0 := 0) rfl (mw_5 Nat.zero_lt_one) (m_gin (σ := σ) h57 (Or.inr h26)) d_MM_hang_65 ?_
                  refine zz_iload_n C d_MM_hang_66 rfl ?_
                  refine zz_icmp_eq (tgt := 73) C d_MM_hang_67 (by decide) (fun h67 => ?_) (fun h67 => ?_)
                  · refine zz_aload_n C d_MM_hang_73 rfl ?_
                    refine zz_get C (ci := 4) (N := 16) 4 rfl zi_MM (by decide) fl_MM_23 (mw_0 Nat.zero_lt_one) rfl d_MM_hang_74 ?_
                    refine zz_iload_n C d_MM_hang_77 rfl ?_
                    refine zz_iload_n C d_MM_hang_78 rfl ?_
                    refine ms_4 C Nat.zero_lt_one (m_scope_in I h13) d_MM_hang_79 ?_
                    refine zz_iconst (x := 0) C d_MM_hang_80 rfl ?_
                    exact mr_i C hr rfl d_MM_hang_81 (by simp only [mf_hang, mf_hang2, if_pos h5, if_pos h13, if_neg h18, if_pos h26, if_neg h37, if_neg h41, if_neg h50, if_neg h57, if_pos h67] <;> simp [mf_hang, mf_hang2, z_at]) (by simp only [mf_hang, mf_hang2, if_pos h5, if_pos h13, if_neg h18, if_pos h26, if_neg h37, if_neg h41, if_neg h50, if_neg h57, if_pos h67] <;> simp [mf_hang, mf_hang2, z_at])
                  · refine zz_bipush (x := -5) C d_MM_hang_70 rfl ?_
                    exact mr_i C hr rfl d_MM_hang_72 (by simp only [mf_hang, mf_hang2, if_pos h5, if_pos h13, if_neg h18, if_pos h26, if_neg h37, if_neg h41, if_neg h50, if_neg h57, if_neg h67] <;> simp [mf_hang, mf_hang2, z_at]) (by simp only [mf_hang, mf_hang2, if_pos h5, if_pos h13, if_neg h18, if_pos h26, if_neg h37, if_neg h41, if_neg h50, if_neg h57, if_neg h67] <;> simp [mf_hang, mf_hang2, z_at])
              · refine zz_bipush (x := -4) C d_MM_hang_53 rfl ?_
                exact mr_i C hr rfl d_MM_hang_55 (by simp only [mf_hang, mf_hang2, if_pos h5, if_pos h13, if_neg h18, if_pos h26, if_neg h37, if_neg h41, if_pos h50] <;> simp [mf_hang, mf_hang2, z_at]) (by simp only [mf_hang, mf_hang2, if_pos h5, if_pos h13, if_neg h18, if_pos h26, if_neg h37, if_neg h41, if_pos h50] <;> simp [mf_hang, mf_hang2, z_at])
        · refine zz_iconst (x := -1) C d_MM_hang_29 rfl ?_
          exact mr_i C hr rfl d_MM_hang_30 (by simp only [mf_hang, mf_hang2, if_pos h5, if_pos h13, if_neg h18, if_neg h26] <;> simp [mf_hang, mf_hang2, z_at]) (by simp only [mf_hang, mf_hang2, if_pos h5, if_pos h13, if_neg h18, if_neg h26] <;> simp [mf_hang, mf_hang2, z_at])
set_option maxHeartbeats 400000 in
set_option maxRecDepth 100000 in
theorem c_MM_portal {l : Launch} {D : va_G} {dA : Nat → ClassId} {lo n : Nat} {σ : zS} {t z : Int32} (I : mI σ) : mM l y_MM_portal b_MM_portal 3 (some .int) 2 D dA lo n [.ref (ma0 lo 0), .int t, .int z] σ (some (.int (mf_portal σ t z))) σ := by
  refine zM_of (lv0 := [(0, .ref (ma0 lo 0)), (1, .int t), (2, .int z)]) (by decide) rfl rfl rfl ?_
  intro p e s m below meth c C hr hnm hsz
  have C : zC p s m ([.ref (ma0 lo 0), .int t, .int z] : List Value).toArray meth c b_MM_portal 3 R_MM D dA := C
  refine zz_aload_n C d_MM_portal_0 rfl ?_
  refine zz_iload_n C d_MM_portal_1 rfl ?_
  refine mc_Vi C (mw_0 Nat.zero_lt_one) rfl s_MM_72 c_MM_idle rfl rfl d_MM_portal_2 k_MM_idle ⟨by decide, by decide⟩ rfl ?_
  refine zz_if_ne (tgt := 16) C d_MM_portal_5 (by decide) (fun h5 => ?_) (fun h5 => ?_)
  · refine zz_iconst (x := -1) C d_MM_portal_16 rfl ?_
    exact mr_i C hr rfl d_MM_portal_17 (by simp only [mf_portal, if_neg h5] <;> simp [mf_portal, z_at]) rfl
  · refine zz_aload_n C d_MM_portal_8 rfl ?_
    refine zz_iload_n C d_MM_portal_9 rfl ?_
    refine mc_Vi C (mw_0 Nat.zero_lt_one) rfl s_MM_76 c_MM_noScope rfl rfl d_MM_portal_10 k_MM_noScope ⟨by decide, by decide⟩ rfl ?_
    refine zz_if_eq (tgt := 18) C d_MM_portal_13 (by decide) (fun h13 => ?_) (fun h13 => ?_)
    · refine zz_aload_n C d_MM_portal_18 rfl ?_
      refine zz_iload_n C d_MM_portal_19 rfl ?_
      refine zz_iload_n C d_MM_portal_20 rfl ?_
      refine mc_Vi C (mw_0 Nat.zero_lt_one) rfl s_MM_79 (c_MM_stepWith I (m_idle_thr h5)) rfl rfl d_MM_portal_21 k_MM_stepWith ⟨by decide, by decide⟩ rfl ?_
      refine zz_if_ge (tgt := 30) C d_MM_portal_24 (by decide) (fun h24 => ?_) (fun h24 => ?_)
      · refine zz_aload_n C d_MM_portal_30 rfl ?_
        refine zz_get C (ci := 4) (N := 16) 4 rfl zi_MM (by decide) fl_MM_23 (mw_0 Nat.zero_lt_one) rfl d_MM_portal_31 ?_
        refine zz_iload_n C d_MM_portal_34 rfl ?_
        refine zz_iald C (t0 := 0) rfl (mw_4 Nat.zero_lt_one) (m_scope_in I h13) d_MM_portal_35 ?_
        refine zz_if_ge (tgt := 44) C d_MM_portal_36 (by decide) (fun h36 => ?_) (fun h36 => ?_)
        · refine zz_aload_n C d_MM_portal_44 rfl ?_
          refine zz_get C (ci := 4) (N := 16) 4 rfl zi_MM (by decide) fl_MM_23 (mw_0 Nat.zero_lt_one) rfl d_MM_portal_45 ?_
          refine zz_iload_n C d_MM_portal_48 rfl ?_
          refine zz_iald C (t0 := 0) rfl (mw_4 Nat.zero_lt_one) (m_scope_in I h13) d_MM_portal_49 ?_
          exact mr_i C hr rfl d_MM_portal_50 (by simp only [mf_portal, if_pos h5, if_pos h13, if_pos h24, if_pos h36] <;> simp [mf_portal, z_at]) rfl
        · refine zz_bipush (x := -6) C d_MM_portal_39 rfl ?_
          refine zz_goto (tgt := 50) C d_MM_portal_41 (by decide) ?_
          exact mr_i C hr rfl d_MM_portal_50 (by simp only [mf_portal, if_pos h5, if_pos h13, if_pos h24, if_neg h36] <;> simp [mf_portal, z_at]) rfl
      · refine zz_bipush (x := -4) C d_MM_portal_27 rfl ?_
        exact mr_i C hr rfl d_MM_portal_29 (by simp only [mf_portal, if_pos h5, if_pos h13, if_neg h24] <;> simp [mf_portal, z_at]) rfl
    · refine zz_iconst (x := -1) C d_MM_portal_16 rfl ?_
      exact mr_i C hr rfl d_MM_portal_17 (by simp only [mf_portal, if_pos h5, if_neg h13] <;> simp [mf_portal, z_at]) rfl
set_option maxHeartbeats 400000 in
set_option maxRecDepth 100000 in
theorem c_MM_assign {l : Launch} {D : va_G} {dA : Nat → ClassId} {lo n : Nat} {σ : zS} {t k o : Int32} (I : mI σ) : mM l y_MM_assign b_MM_assign 4 (some .int) 3 D dA lo n [.ref (ma0 lo 0), .int t, .int k, .int o] σ (some (.int ((mf_assign σ t k o).1))) ((mf_assign σ t k o).2) := by
  refine zM_of (lv0 := [(0, .ref (ma0 lo 0)), (1, .int t), (2, .int k), (3, .int o)]) (by decide) rfl rfl rfl ?_
  intro p e s m below meth c C hr hnm hsz
  have C : zC p s m ([.ref (ma0 lo 0), .int t, .int k, .int o] : List Value).toArray meth c b_MM_assign 4 R_MM D dA := C
  refine zz_aload_n C d_MM_assign_0 rfl ?_
  refine zz_iload_n C d_MM_assign_1 rfl ?_
  refine mc_Vi C (mw_0 Nat.zero_lt_one) rfl s_MM_72 c_MM_idle rfl rfl d_MM_assign_2 k_MM_idle ⟨by decide, by decide⟩ rfl ?_
  refine zz_if_ne (tgt := 30) C d_MM_assign_5 (by decide) (fun h5 => ?_) (fun h5 => ?_)
  · refine zz_iconst (x := -1) C d_MM_assign_30 rfl ?_
    exact mr_i C hr rfl d_MM_assign_31 (by simp only [mf_assign, mf_assign2, if_neg h5] <;> simp [mf_assign, mf_assign2, z_at]) (by simp only [mf_assign, mf_assign2, if_neg h5] <;> simp [mf_assign, mf_assign2, z_at])
  · refine zz_iload_n C d_MM_assign_8 rfl ?_
    refine zz_if_lt (tgt := 30) C d_MM_assign_9 (by decide) (fun h9 => ?_) (fun h9 => ?_)
    · refine zz_iconst (x := -1) C d_MM_assign_30 rfl ?_
      exact mr_i C hr rfl d_MM_assign_31 (by simp only [mf_assign, mf_assign2, if_pos h5, if_pos h9] <;> simp [mf_assign, mf_assign2, z_at]) (by simp only [mf_assign, mf_assign2, if_pos h5, if_pos h9] <;> simp [mf_assign, mf_assign2, z_at])
    · refine zz_iload_n C d_MM_assign_12 rfl ?_
      refine zz_iconst (x := 3) C d_MM_assign_13 rfl ?_
      refine zz_icmp_gt (tgt := 30) C d_MM_assign_14 (by decide) (fun h14 => ?_) (fun h14 => ?_)
      · refine zz_iconst (x := -1) C d_MM_assign_30 rfl ?_
        exact mr_i C hr rfl d_MM_assign_31 (by simp only [mf_assign, mf_assign2, if_pos h5, if_neg h9, if_pos h14] <;> simp [mf_assign, mf_assign2, z_at]) (by simp only [mf_assign, mf_assign2, if_pos h5, if_neg h9, if_pos h14] <;> simp [mf_assign, mf_assign2, z_at])
      · refine zz_iload_n C d_MM_assign_17 rfl ?_
        refine zz_iconst (x := -1) C d_MM_assign_18 rfl ?_
        refine zz_icmp_eq (tgt := 32) C d_MM_assign_19 (by decide) (fun h19 => ?_) (fun h19 => ?_)
        · refine zz_iload_n C d_MM_assign_32 rfl ?_
          refine zz_if_lt (tgt := 48) C d_MM_assign_33 (by decide) (fun h33 => ?_) (fun h33 => ?_)
          · refine zz_iload_n C d_MM_assign_48 rfl ?_
            refine zz_if_lt (tgt := 65) C d_MM_assign_49 (by decide) (fun h49 => ?_) (fun h49 => ?_)
            · refine zz_aload_n C d_MM_assign_65 rfl ?_
              refine zz_get C (ci := 4) (N := 16) 15 rfl zi_MM (by decide) fl_MM_57 (mw_0 Nat.zero_lt_one) rfl d_MM_assign_66 ?_
              refine zz_iload_n C d_MM_assign_69 rfl ?_
              refine zz_iload_n C d_MM_assign_70 rfl ?_
              refine ms_15 C Nat.zero_lt_one (z_vin2 h9 h14 rfl) d_MM_assign_71 ?_
              refine zz_iconst (x := 0) C d_MM_assign_72 rfl ?_
              exact mr_i C hr rfl d_MM_assign_73 (by simp only [mf_assign, mf_assign2, if_pos h5, if_neg h9, if_neg h14, if_pos h19, if_pos h33, if_pos h49] <;> simp [mf_assign, mf_assign2, z_at]) (by simp only [mf_assign, mf_assign2, if_pos h5, if_neg h9, if_neg h14, if_pos h19, if_pos h33, if_pos h49] <;> simp [mf_assign, mf_assign2, z_at])
            · exact absurd h33 h49
          · refine zz_aload_n C d_MM_assign_36 rfl ?_
            refine zz_iload_n C d_MM_assign_37 rfl ?_
            refine zz_iload_n C d_MM_assign_38 rfl ?_
            refine mc_Vi C (mw_0 Nat.zero_lt_one) rfl s_MM_105 (c_MM_sees I (m_idle_thr h5) (m_gin (σ := σ) h33 (Or.inl h19))) rfl rfl d_MM_assign_39 k_MM_sees ⟨by decide, by decide⟩ rfl ?_
            refine zz_if_ne (tgt := 48) C d_MM_assign_42 (by decide) (fun h42 => ?_) (fun h42 => ?_)
            · refine zz_iload_n C d_MM_assign_48 rfl ?_
              refine zz_if_lt (tgt := 65) C d_MM_assign_49 (by decide) (fun h49 => ?_) (fun h49 => ?_)
              · exact absurd h49 h33
              · refine zz_aload_n C d_MM_assign_52 rfl ?_
                refine zz_get C (ci := 4) (N := 16) 5 rfl zi_MM (by decide) fl_MM_26 (mw_0 Nat.zero_lt_one) rfl d_MM_assign_53 ?_
                refine zz_iload_n C d_MM_assign_56 rfl ?_
                refine zz_iald C (t0 := 0) rfl (mw_5 Nat.zero_lt_one) (m_gin (σ := σ) h49 (Or.inl h19)) d_MM_assign_57 ?_
                refine zz_iconst (x := 1) C d_MM_assign_58 rfl ?_
                refine zz_icmp_le (tgt := 65) C d_MM_assign_59 (by decide) (fun h59 => ?_) (fun h59 => ?_)
                · refine zz_aload_n C d_MM_assign_65 rfl ?_
                  refine zz_get C (ci := 4) (N := 16) 15 rfl zi_MM (by decide) fl_MM_57 (mw_0 Nat.zero_lt_one) rfl d_MM_assign_66 ?_
                  refine zz_iload_n C d_MM_assign_69 rfl ?_
                  refine zz_iload_n C d_MM_assign_70 rfl ?_
                  refine ms_15 C Nat.zero_lt_one (z_vin2 h9 h14 rfl) d_MM_assign_71 ?_
                  refine zz_iconst (x := 0) C d_MM_assign_72 rfl ?_
                  exact mr_i C hr rfl d_MM_assign_73 (by simp only [mf_assign, mf_assign2, if_pos h5, if_neg h9, if_neg h14, if_pos h19, if_neg h33, if_neg h42, if_neg h49, if_pos h59] <;> simp [mf_assign, mf_assign2, z_at]) (by simp only [mf_assign, mf_assign2, if_pos h5, if_neg h9, if_neg h14, if_pos h19, if_neg h33, if_neg h42, if_neg h49, if_pos h59] <;> simp [mf_assign, mf_assign2, z_at])
                · refine zz_bipush (x := -5) C d_MM_assign_62 rfl ?_
                  exact mr_i C hr rfl d_MM_assign_64 (by simp only [mf_assign, mf_assign2, if_pos h5, if_neg h9, if_neg h14, if_pos h19, if_neg h33, if_neg h42, if_neg h49, if_neg h59] <;> simp [mf_assign, mf_assign2, z_at]) (by simp only [mf_assign, mf_assign2, if_pos h5, if_neg h9, if_neg h14, if_pos h19, if_neg h33, if_neg h42, if_neg h49, if_neg h59] <;> simp [mf_assign, mf_assign2, z_at])
            · refine zz_bipush (x := -4) C d_MM_assign_45 rfl ?_
              exact mr_i C hr rfl d_MM_assign_47 (by simp only [mf_assign, mf_assign2, if_pos h5, if_neg h9, if_neg h14, if_pos h19, if_neg h33, if_pos h42] <;> simp [mf_assign, mf_assign2, z_at]) (by simp only [mf_assign, mf_assign2, if_pos h5, if_neg h9, if_neg h14, if_pos h19, if_neg h33, if_pos h42] <;> simp [mf_assign, mf_assign2, z_at])
        · refine zz_aload_n C d_MM_assign_22 rfl ?_
          refine zz_iload_n C d_MM_assign_23 rfl ?_
          refine mc_Vi C (mw_0 Nat.zero_lt_one) rfl s_MM_102 c_MM_noObject rfl rfl d_MM_assign_24 k_MM_noObject ⟨by decide, by decide⟩ rfl ?_
          refine zz_if_eq (tgt := 32) C d_MM_assign_27 (by decide) (fun h27 => ?_) (fun h27 => ?_)
          · refine zz_iload_n C d_MM_assign_32 rfl ?_
            refine zz_if_lt (tgt := 48) C d_MM_assign_33 (by decide) (fun h33 => ?_) (fun h33 => ?_)
            · refine zz_iload_n C d_MM_assign_48 rfl ?_
              refine zz_if_lt (tgt := 65) C d_MM_assign_49 (by decide) (fun h49 => ?_) (fun h49 => ?_)
              · refine zz_aload_n C d_MM_assign_65 rfl ?_
                refine zz_get C (ci := 4) (N := 16) 15 rfl zi_MM (by decide) fl_MM_57 (mw_0 Nat.zero_lt_one) rfl d_MM_assign_66 ?_
                refine zz_iload_n C d_MM_assign_69 rfl ?_
                refine zz_iload_n C d_MM_assign_70 rfl ?_
                refine ms_15 C Nat.zero_lt_one (z_vin2 h9 h14 rfl) d_MM_assign_71 ?_
                refine zz_iconst (x := 0) C d_MM_assign_72 rfl ?_
                exact mr_i C hr rfl d_MM_assign_73 (by simp only [mf_assign, mf_assign2, if_pos h5, if_neg h9, if_neg h14, if_neg h19, if_pos h27, if_pos h33, if_pos h49] <;> simp [mf_assign, mf_assign2, z_at]) (by simp only [mf_assign, mf_assign2, if_pos h5, if_neg h9, if_neg h14, if_neg h19, if_pos h27, if_pos h33, if_pos h49] <;> simp [mf_assign, mf_assign2, z_at])
              · exact absurd h33 h49
            · refine zz_aload_n C d_MM_assign_36 rfl ?_
              refine zz_iload_n C d_MM_assign_37 rfl ?_
              refine zz_iload_n C d_MM_assign_38 rfl ?_
              refine mc_Vi C (mw_0 Nat.zero_lt_one) rfl s_MM_105 (c_MM_sees I (m_idle_thr h5) (m_gin (σ := σ) h33 (Or.inr h27))) rfl rfl d_MM_assign_39 k_MM_sees ⟨by decide, by decide⟩ rfl ?_
              refine zz_if_ne (tgt := 48) C d_MM_assign_42 (by decide) (fun h42 => ?_) (fun h42 => ?_)
              · refine zz_iload_n C d_MM_assign_48 rfl ?_
                refine zz_if_lt (tgt := 65) C d_MM_assign_49 (by decide) (fun h49 => ?_) (fun h49 => ?_)
                · exact absurd h49 h33
                · refine zz_aload_n C d_MM_assign_52 rfl ?_
                  refine zz_get C (ci := 4) (N := 16) 5 rfl zi_MM (by decide) fl_MM_26 (mw_0 Nat.zero_lt_one) rfl d_MM_assign_53 ?_
                  refine zz_iload_n C d_MM_assign_56 rfl ?_
                  refine zz_iald C (t0 := 0) rfl (mw_5 Nat.zero_lt_one) (m_gin (σ := σ) h49 (Or.inr h27)) d_MM_assign_57 ?_
                  refine zz_iconst (x := 1) C d_MM_assign_58 rfl ?_
                  refine zz_icmp_le (tgt := 65) C d_MM_assign_59 (by decide) (fun h59 => ?_) (fun h59 => ?_)
                  · refine zz_aload_n C d_MM_assign_65 rfl ?_
                    refine zz_get C (ci := 4) (N := 16) 15 rfl zi_MM (by decide) fl_MM_57 (mw_0 Nat.zero_lt_one) rfl d_MM_assign_66 ?_
                    refine zz_iload_n C d_MM_assign_69 rfl ?_
                    refine zz_iload_n C d_MM_assign_70 rfl ?_
                    refine ms_15 C Nat.zero_lt_one (z_vin2 h9 h14 rfl) d_MM_assign_71 ?_
                    refine zz_iconst (x := 0) C d_MM_assign_72 rfl ?_
                    exact mr_i C hr rfl d_MM_assign_73 (by simp only [mf_assign, mf_assign2, if_pos h5, if_neg h9, if_neg h14, if_neg h19, if_pos h27, if_neg h33, if_neg h42, if_neg h49, if_pos h59] <;> simp [mf_assign, mf_assign2, z_at]) (by simp only [mf_assign, mf_assign2, if_pos h5, if_neg h9, if_neg h14, if_neg h19, if_pos h27, if_neg h33, if_neg h42, if_neg h49, if_pos h59] <;> simp [mf_assign, mf_assign2, z_at])
                  · refine zz_bipush (x := -5) C d_MM_assign_62 rfl ?_
                    exact mr_i C hr rfl d_MM_assign_64 (by simp only [mf_assign, mf_assign2, if_pos h5, if_neg h9, if_neg h14, if_neg h19, if_pos h27, if_neg h33, if_neg h42, if_neg h49, if_neg h59] <;> simp [mf_assign, mf_assign2, z_at]) (by simp only [mf_assign, mf_assign2, if_pos h5, if_neg h9, if_neg h14, if_neg h19, if_pos h27, if_neg h33, if_neg h42, if_neg h49, if_neg h59] <;> simp [mf_assign, mf_assign2, z_at])
              · refine zz_bipush (x := -4) C d_MM_assign_45 rfl ?_
                exact mr_i C hr rfl d_MM_assign_47 (by simp only [mf_assign, mf_assign2, if_pos h5, if_neg h9, if_neg h14, if_neg h19, if_pos h27, if_neg h33, if_pos h42] <;> simp [mf_assign, mf_assign2, z_at]) (by simp only [mf_assign, mf_assign2, if_pos h5, if_neg h9, if_neg h14, if_neg h19, if_pos h27, if_neg h33, if_pos h42] <;> simp [mf_assign, mf_assign2, z_at])
          · refine zz_iconst (x := -1) C d_MM_assign_30 rfl ?_
            exact mr_i C hr rfl d_MM_assign_31 (by simp only [mf_assign, mf_assign2, if_pos h5, if_neg h9, if_neg h14, if_neg h19, if_neg h27] <;> simp [mf_assign, mf_assign2, z_at]) (by simp only [mf_assign, mf_assign2, if_pos h5, if_neg h9, if_neg h14, if_neg h19, if_neg h27] <;> simp [mf_assign, mf_assign2, z_at])
set_option maxHeartbeats 400000 in
set_option maxRecDepth 100000 in
theorem c_MM_areaOf {l : Launch} {D : va_G} {dA : Nat → ClassId} {lo n : Nat} {σ : zS} {o : Int32} : mM l y_MM_areaOf b_MM_areaOf 2 (some .int) 1 D dA lo n [.ref (ma0 lo 0), .int o] σ (some (.int (mf_areaOf σ o))) σ := by
  refine zM_of (lv0 := [(0, .ref (ma0 lo 0)), (1, .int o)]) (by decide) rfl rfl rfl ?_
  intro p e s m below meth c C hr hnm hsz
  have C : zC p s m ([.ref (ma0 lo 0), .int o] : List Value).toArray meth c b_MM_areaOf 2 R_MM D dA := C
  refine zz_aload_n C d_MM_areaOf_0 rfl ?_
  refine zz_iload_n C d_MM_areaOf_1 rfl ?_
  refine mc_Vi C (mw_0 Nat.zero_lt_one) rfl s_MM_102 c_MM_noObject rfl rfl d_MM_areaOf_2 k_MM_noObject ⟨by decide, by decide⟩ rfl ?_
  refine zz_if_eq (tgt := 12) C d_MM_areaOf_5 (by decide) (fun h5 => ?_) (fun h5 => ?_)
  · refine zz_aload_n C d_MM_areaOf_12 rfl ?_
    refine zz_get C (ci := 4) (N := 16) 5 rfl zi_MM (by decide) fl_MM_26 (mw_0 Nat.zero_lt_one) rfl d_MM_areaOf_13 ?_
    refine zz_iload_n C d_MM_areaOf_16 rfl ?_
    refine zz_iald C (t0 := 0) rfl (mw_5 Nat.zero_lt_one) (m_obj h5) d_MM_areaOf_17 ?_
    exact mr_i C hr rfl d_MM_areaOf_18 (by simp only [mf_areaOf, if_pos h5] <;> simp [mf_areaOf, z_at]) rfl
  · refine zz_iconst (x := -1) C d_MM_areaOf_8 rfl ?_
    refine zz_goto (tgt := 18) C d_MM_areaOf_9 (by decide) ?_
    exact mr_i C hr rfl d_MM_areaOf_18 (by simp only [mf_areaOf, if_neg h5] <;> simp [mf_areaOf, z_at]) rfl
set_option maxHeartbeats 400000 in
set_option maxRecDepth 100000 in
theorem c_MM_room {l : Launch} {D : va_G} {dA : Nat → ClassId} {lo n : Nat} {σ : zS} {a : Int32} (I : mI σ) : mM l y_MM_room b_MM_room 2 (some .int) 1 D dA lo n [.ref (ma0 lo 0), .int a] σ (some (.int (mf_room σ a))) σ := by
  refine zM_of (lv0 := [(0, .ref (ma0 lo 0)), (1, .int a)]) (by decide) rfl rfl rfl ?_
  intro p e s m below meth c C hr hnm hsz
  have C : zC p s m ([.ref (ma0 lo 0), .int a] : List Value).toArray meth c b_MM_room 2 R_MM D dA := C
  refine zz_aload_n C d_MM_room_0 rfl ?_
  refine zz_iload_n C d_MM_room_1 rfl ?_
  refine mc_Vi C (mw_0 Nat.zero_lt_one) rfl s_MM_85 c_MM_noArea rfl rfl d_MM_room_2 k_MM_noArea ⟨by decide, by decide⟩ rfl ?_
  refine zz_if_eq (tgt := 12) C d_MM_room_5 (by decide) (fun h5 => ?_) (fun h5 => ?_)
  · refine zz_aload_n C d_MM_room_12 rfl ?_
    refine zz_get C (ci := 4) (N := 16) 1 rfl zi_MM (by decide) fl_MM_13 (mw_0 Nat.zero_lt_one) rfl d_MM_room_13 ?_
    refine zz_iload_n C d_MM_room_16 rfl ?_
    refine zz_iald C (t0 := 0) rfl (mw_1 Nat.zero_lt_one) (m_area_in I h5) d_MM_room_17 ?_
    refine zz_aload_n C d_MM_room_18 rfl ?_
    refine zz_iload_n C d_MM_room_19 rfl ?_
    refine mc_Vi C (mw_0 Nat.zero_lt_one) rfl s_MM_95 c_MM_used rfl rfl d_MM_room_20 k_MM_used ⟨by decide, by decide⟩ rfl ?_
    refine zz_isub C d_MM_room_23 ?_
    exact mr_i C hr rfl d_MM_room_24 (by simp only [mf_room, if_pos h5] <;> simp [mf_room, z_at]) rfl
  · refine zz_iconst (x := -1) C d_MM_room_8 rfl ?_
    refine zz_goto (tgt := 24) C d_MM_room_9 (by decide) ?_
    exact mr_i C hr rfl d_MM_room_24 (by simp only [mf_room, if_neg h5] <;> simp [mf_room, z_at]) rfl
set_option maxHeartbeats 400000 in
set_option maxRecDepth 100000 in
theorem c_MM_parent {l : Launch} {D : va_G} {dA : Nat → ClassId} {lo n : Nat} {σ : zS} {z : Int32} (I : mI σ) : mM l y_MM_parent b_MM_parent 2 (some .int) 1 D dA lo n [.ref (ma0 lo 0), .int z] σ (some (.int (mf_parent σ z))) σ := by
  refine zM_of (lv0 := [(0, .ref (ma0 lo 0)), (1, .int z)]) (by decide) rfl rfl rfl ?_
  intro p e s m below meth c C hr hnm hsz
  have C : zC p s m ([.ref (ma0 lo 0), .int z] : List Value).toArray meth c b_MM_parent 2 R_MM D dA := C
  refine zz_aload_n C d_MM_parent_0 rfl ?_
  refine zz_iload_n C d_MM_parent_1 rfl ?_
  refine mc_Vi C (mw_0 Nat.zero_lt_one) rfl s_MM_76 c_MM_noScope rfl rfl d_MM_parent_2 k_MM_noScope ⟨by decide, by decide⟩ rfl ?_
  refine zz_if_eq (tgt := 12) C d_MM_parent_5 (by decide) (fun h5 => ?_) (fun h5 => ?_)
  · refine zz_aload_n C d_MM_parent_12 rfl ?_
    refine zz_get C (ci := 4) (N := 16) 2 rfl zi_MM (by decide) fl_MM_17 (mw_0 Nat.zero_lt_one) rfl d_MM_parent_13 ?_
    refine zz_iload_n C d_MM_parent_16 rfl ?_
    refine zz_iald C (t0 := 0) rfl (mw_2 Nat.zero_lt_one) (m_scope_in I h5) d_MM_parent_17 ?_
    refine zz_if_ne (tgt := 26) C d_MM_parent_18 (by decide) (fun h18 => ?_) (fun h18 => ?_)
    · refine zz_aload_n C d_MM_parent_26 rfl ?_
      refine zz_get C (ci := 4) (N := 16) 3 rfl zi_MM (by decide) fl_MM_20 (mw_0 Nat.zero_lt_one) rfl d_MM_parent_27 ?_
      refine zz_iload_n C d_MM_parent_30 rfl ?_
      refine zz_iald C (t0 := 0) rfl (mw_3 Nat.zero_lt_one) (m_scope_in I h5) d_MM_parent_31 ?_
      exact mr_i C hr rfl d_MM_parent_32 (by simp only [mf_parent, if_pos h5, if_neg h18] <;> simp [mf_parent, z_at]) rfl
    · refine zz_bipush (x := -6) C d_MM_parent_21 rfl ?_
      refine zz_goto (tgt := 32) C d_MM_parent_23 (by decide) ?_
      exact mr_i C hr rfl d_MM_parent_32 (by simp only [mf_parent, if_pos h5, if_pos h18] <;> simp [mf_parent, z_at]) rfl
  · refine zz_iconst (x := -1) C d_MM_parent_8 rfl ?_
    refine zz_goto (tgt := 32) C d_MM_parent_9 (by decide) ?_
    exact mr_i C hr rfl d_MM_parent_32 (by simp only [mf_parent, if_neg h5] <;> simp [mf_parent, z_at]) rfl
set_option maxHeartbeats 400000 in
set_option maxRecDepth 100000 in
theorem c_MM_entries {l : Launch} {D : va_G} {dA : Nat → ClassId} {lo n : Nat} {σ : zS} {z : Int32} (I : mI σ) : mM l y_MM_entries b_MM_entries 2 (some .int) 1 D dA lo n [.ref (ma0 lo 0), .int z] σ (some (.int (mf_entries σ z))) σ := by
  refine zM_of (lv0 := [(0, .ref (ma0 lo 0)), (1, .int z)]) (by decide) rfl rfl rfl ?_
  intro p e s m below meth c C hr hnm hsz
  have C : zC p s m ([.ref (ma0 lo 0), .int z] : List Value).toArray meth c b_MM_entries 2 R_MM D dA := C
  refine zz_aload_n C d_MM_entries_0 rfl ?_
  refine zz_iload_n C d_MM_entries_1 rfl ?_
  refine mc_Vi C (mw_0 Nat.zero_lt_one) rfl s_MM_76 c_MM_noScope rfl rfl d_MM_entries_2 k_MM_noScope ⟨by decide, by decide⟩ rfl ?_
  refine zz_if_eq (tgt := 12) C d_MM_entries_5 (by decide) (fun h5 => ?_) (fun h5 => ?_)
  · refine zz_aload_n C d_MM_entries_12 rfl ?_
    refine zz_get C (ci := 4) (N := 16) 2 rfl zi_MM (by decide) fl_MM_17 (mw_0 Nat.zero_lt_one) rfl d_MM_entries_13 ?_
    refine zz_iload_n C d_MM_entries_16 rfl ?_
    refine zz_iald C (t0 := 0) rfl (mw_2 Nat.zero_lt_one) (m_scope_in I h5) d_MM_entries_17 ?_
    exact mr_i C hr rfl d_MM_entries_18 (by simp only [mf_entries, if_pos h5] <;> simp [mf_entries, z_at]) rfl
  · refine zz_iconst (x := -1) C d_MM_entries_8 rfl ?_
    refine zz_goto (tgt := 18) C d_MM_entries_9 (by decide) ?_
    exact mr_i C hr rfl d_MM_entries_18 (by simp only [mf_entries, if_neg h5] <;> simp [mf_entries, z_at]) rfl
set_option maxHeartbeats 400000 in
set_option maxRecDepth 100000 in
theorem c_MM_view {l : Launch} {D : va_G} {dA : Nat → ClassId} {lo n : Nat} {σ : zS} {t i : Int32} (I : mI σ) : mM l y_MM_view b_MM_view 4 (some .int) 1 D dA lo n [.ref (ma0 lo 0), .int t, .int i] σ (some (.int (mf_view σ t i))) σ := by
  refine zM_of (lv0 := [(0, .ref (ma0 lo 0)), (1, .int t), (2, .int i)]) (by decide) rfl rfl rfl ?_
  intro p e s m below meth c C hr hnm hsz
  have C : zC p s m ([.ref (ma0 lo 0), .int t, .int i] : List Value).toArray meth c b_MM_view 4 R_MM D dA := C
  refine zz_aload_n C d_MM_view_0 rfl ?_
  refine zz_iload_n C d_MM_view_1 rfl ?_
  refine mc_Vi C (mw_0 Nat.zero_lt_one) rfl s_MM_72 c_MM_idle rfl rfl d_MM_view_2 k_MM_idle ⟨by decide, by decide⟩ rfl ?_
  refine zz_if_ne (tgt := 18) C d_MM_view_5 (by decide) (fun h5 => ?_) (fun h5 => ?_)
  · refine zz_iconst (x := -1) C d_MM_view_18 rfl ?_
    exact mr_i C hr rfl d_MM_view_19 (by simp only [mf_view, if_neg h5] <;> simp [mf_view, z_at]) rfl
  · refine zz_iload_n C d_MM_view_8 rfl ?_
    refine zz_if_lt (tgt := 18) C d_MM_view_9 (by decide) (fun h9 => ?_) (fun h9 => ?_)
    · refine zz_iconst (x := -1) C d_MM_view_18 rfl ?_
      exact mr_i C hr rfl d_MM_view_19 (by simp only [mf_view, if_pos h5, if_pos h9] <;> simp [mf_view, z_at]) rfl
    · refine zz_iload_n C d_MM_view_12 rfl ?_
      refine zz_bipush (x := 11) C d_MM_view_13 rfl ?_
      refine zz_icmp_le (tgt := 20) C d_MM_view_15 (by decide) (fun h15 => ?_) (fun h15 => ?_)
      · refine zz_aload_n C d_MM_view_20 rfl ?_
        refine zz_iload_n C d_MM_view_21 rfl ?_
        refine zz_iload_n C d_MM_view_22 rfl ?_
        refine mc_Vi C (mw_0 Nat.zero_lt_one) rfl s_MM_68 (c_MM_viewed I (m_idle_thr h5) h9) rfl rfl d_MM_view_23 k_MM_viewed ⟨by decide, by decide⟩ rfl ?_
        refine zz_istore_n C d_MM_view_26 (by decide) ?_
        refine zz_iload_n C d_MM_view_27 rfl ?_
        refine zz_if_ge (tgt := 35) C d_MM_view_28 (by decide) (fun h28 => ?_) (fun h28 => ?_)
        · refine zz_aload_n C d_MM_view_35 rfl ?_
          refine zz_get C (ci := 4) (N := 16) 12 rfl zi_MM (by decide) fl_MM_48 (mw_0 Nat.zero_lt_one) rfl d_MM_view_36 ?_
          refine zz_iload_n C d_MM_view_39 rfl ?_
          refine zz_bipush (x := 12) C d_MM_view_40 rfl ?_
          refine zz_imul C d_MM_view_42 ?_
          refine zz_iload_n C d_MM_view_43 rfl ?_
          refine zz_iadd C d_MM_view_44 ?_
          refine zz_iald C (t0 := 0) rfl (mw_12 Nat.zero_lt_one) (m_ix (m_idle_thr h5) (z_nle (m_viewed_o I (m_idle_thr h5)) h28)) d_MM_view_45 ?_
          exact mr_i C hr rfl d_MM_view_46 (by simp only [mf_view, if_pos h5, if_neg h9, if_pos h15, if_pos h28] <;> simp [mf_view, z_at]) rfl
        · refine zz_iconst (x := -1) C d_MM_view_31 rfl ?_
          refine zz_goto (tgt := 46) C d_MM_view_32 (by decide) ?_
          exact mr_i C hr rfl d_MM_view_46 (by simp only [mf_view, if_pos h5, if_neg h9, if_pos h15, if_neg h28] <;> simp [mf_view, z_at]) rfl
      · refine zz_iconst (x := -1) C d_MM_view_18 rfl ?_
        exact mr_i C hr rfl d_MM_view_19 (by simp only [mf_view, if_pos h5, if_neg h9, if_neg h15] <;> simp [mf_view, z_at]) rfl
