theorem m_em_at {z : Int32} {f i' j' : Nat} (h5 : f ≠ 5) : ∀ (k i : Nat) (σ : zS), mf_em z k i σ f i' j' = σ f i' j' := by
  intro k
  induction k with
  | zero => intro i σ; rfl
  | succ k ih =>
    intro i σ
    unfold mf_em
    rw [ih]
    split
    · simp [z_at, h5]
    · rfl
theorem m_empty_11 {σ : zS} {z : Int32} {i j : Nat} : mf_empty σ z 11 i j = σ 11 i j := by
  unfold mf_empty
  simp only [z_at]
  simp
  exact m_em_at (by decide) 40 0 σ
theorem m_d4 {iv : Int32} {i : Nat} (hiv : iv = nI i) (h : i < 2 ^ 31) : iv / 4 = nI (i / 4) := by
  rw [hiv]
  exact pk_div h (by decide) (by decide)
theorem m_r4 {iv : Int32} {i : Nat} (hiv : iv = nI i) (h : i < 2 ^ 31) : iv - iv / 4 * 4 = nI (i % 4) := by
  rw [hiv]
  exact pk_rem h (by decide) (by decide)
theorem m_I8 {σ : zS} {j : Nat} {v : Int32} (I : mI σ) : mI (z_up σ 8 0 j v) := I
theorem m_keeps_I {σ : zS} {o : Int32} (I : mI σ) : mI (mf_keeps σ o).2 := by
  unfold mf_keeps
  split
  · exact I
  · split
    · split
      · exact m_I8 I
      · exact I
    · exact I
set_option maxHeartbeats 400000 in
set_option maxRecDepth 100000 in
theorem c_MM_leave {l : Launch} {D : va_G} {dA : Nat → ClassId} {lo n : Nat} {σ : zS} {t : Int32} (I : mI σ) : mM l y_MM_leave b_MM_leave 3 (some .int) 1 D dA lo n [.ref (ma0 lo 0), .int t] σ (some (.int ((mf_leave σ t).1))) ((mf_leave σ t).2) := by
  refine zM_of (lv0 := [(0, .ref (ma0 lo 0)), (1, .int t)]) (by decide) rfl rfl rfl ?_
  intro p e s m below meth c C hr hnm hsz
  have C : zC p s m ([.ref (ma0 lo 0), .int t] : List Value).toArray meth c b_MM_leave 3 R_MM D dA := C
  refine zz_aload_n C d_MM_leave_0 rfl ?_
  refine zz_iload_n C d_MM_leave_1 rfl ?_
  refine mc_Vi C (mw_0 Nat.zero_lt_one) rfl s_MM_72 c_MM_idle rfl rfl d_MM_leave_2 k_MM_idle ⟨by decide, by decide⟩ rfl ?_
  refine zz_if_eq (tgt := 10) C d_MM_leave_5 (by decide) (fun h5 => ?_) (fun h5 => ?_)
  · refine zz_aload_n C d_MM_leave_10 rfl ?_
    refine zz_get C (ci := 4) (N := 16) 11 rfl zi_MM (by decide) fl_MM_45 (mw_0 Nat.zero_lt_one) rfl d_MM_leave_11 ?_
    refine zz_iload_n C d_MM_leave_14 rfl ?_
    refine zz_dup2 C d_MM_leave_15 rfl rfl ?_
    refine zz_iald C (t0 := 0) rfl (mw_11 Nat.zero_lt_one) (m_idle_thr h5) d_MM_leave_16 ?_
    refine zz_iconst (x := 1) C d_MM_leave_17 rfl ?_
    refine zz_isub C d_MM_leave_18 ?_
    refine ms_11 C Nat.zero_lt_one (m_idle_thr h5) d_MM_leave_19 ?_
    refine zz_iload_n C d_MM_leave_20 rfl ?_
    refine zz_bipush (x := 12) C d_MM_leave_21 rfl ?_
    refine zz_imul C d_MM_leave_23 ?_
    refine zz_aload_n C d_MM_leave_24 rfl ?_
    refine zz_get C (ci := 4) (N := 16) 11 rfl zi_MM (by decide) fl_MM_45 (mw_0 Nat.zero_lt_one) rfl d_MM_leave_25 ?_
    refine zz_iload_n C d_MM_leave_28 rfl ?_
    refine zz_iald C (t0 := 0) rfl (mw_11 Nat.zero_lt_one) (m_idle_thr h5) d_MM_leave_29 ?_
    refine zz_iadd C d_MM_leave_30 ?_
    refine zz_istore_n C d_MM_leave_31 (by decide) ?_
    refine zz_aload_n C d_MM_leave_32 rfl ?_
    refine zz_get C (ci := 4) (N := 16) 11 rfl zi_MM (by decide) fl_MM_45 (mw_0 Nat.zero_lt_one) rfl d_MM_leave_33 ?_
    refine zz_iload_n C d_MM_leave_36 rfl ?_
    refine zz_iald C (t0 := 0) rfl (mw_11 Nat.zero_lt_one) (m_idle_thr h5) d_MM_leave_37 ?_
    rw [z_at, if_pos ⟨rfl, rfl, rfl⟩]
    refine zz_if_ne (tgt := 48) C d_MM_leave_38 (by decide) (fun h38 => ?_) (fun h38 => ?_)
    · refine zz_aload_n C d_MM_leave_48 rfl ?_
      refine zz_get C (ci := 4) (N := 16) 14 rfl zi_MM (by decide) fl_MM_54 (mw_0 Nat.zero_lt_one) rfl d_MM_leave_49 ?_
      refine zz_iload_n C d_MM_leave_52 rfl ?_
      refine zz_zald C (t0 := 1) rfl (mw_14 Nat.zero_lt_one) (m_ix (m_idle_thr h5) (m_top_in I (z_vlt (m_idle_thr h5)) (m_idle_len I h5))) d_MM_leave_53 ?_
      refine zz_if_eq (tgt := 96) C d_MM_leave_54 (by decide) (fun h54 => ?_) (fun h54 => ?_)
      · refine zz_aload_n C d_MM_leave_96 rfl ?_
        refine zz_get C (ci := 4) (N := 16) 11 rfl zi_MM (by decide) fl_MM_45 (mw_0 Nat.zero_lt_one) rfl d_MM_leave_97 ?_
        refine zz_iload_n C d_MM_leave_100 rfl ?_
        refine zz_iald C (t0 := 0) rfl (mw_11 Nat.zero_lt_one) (m_idle_thr h5) d_MM_leave_101 ?_
        have h54 : σ 14 0 (z_ix (mf_lvK σ t)) = 0 := h54
        exact mr_i C hr rfl d_MM_leave_102 (by simp only [mf_leave, if_pos h5, if_neg h38, if_pos h54] <;> simp [z_at, m_empty_11]) (by simp only [mf_leave, if_pos h5, if_neg h38, if_pos h54] <;> simp [mf_lvA, mf_lvB, mf_lvZ, mf_lvK, z_at, h38])
      · refine zz_aload_n C d_MM_leave_57 rfl ?_
        refine zz_get C (ci := 4) (N := 16) 2 rfl zi_MM (by decide) fl_MM_17 (mw_0 Nat.zero_lt_one) rfl d_MM_leave_58 ?_
        refine zz_aload_n C d_MM_leave_61 rfl ?_
        refine zz_get C (ci := 4) (N := 16) 12 rfl zi_MM (by decide) fl_MM_48 (mw_0 Nat.zero_lt_one) rfl d_MM_leave_62 ?_
        refine zz_iload_n C d_MM_leave_65 rfl ?_
        refine zz_iald C (t0 := 0) rfl (mw_12 Nat.zero_lt_one) (m_ix (m_idle_thr h5) (m_top_in I (z_vlt (m_idle_thr h5)) (m_idle_len I h5))) d_MM_leave_66 ?_
        refine zz_dup2 C d_MM_leave_67 rfl rfl ?_
        refine zz_iald C (t0 := 0) rfl (mw_2 Nat.zero_lt_one) (I.2.2.2.2.2.2.1 _ (z_vlt (m_ix (m_idle_thr h5) (m_top_in I (z_vlt (m_idle_thr h5)) (m_idle_len I h5))))) d_MM_leave_68 ?_
        refine zz_iconst (x := 1) C d_MM_leave_69 rfl ?_
        refine zz_isub C d_MM_leave_70 ?_
        refine ms_2 C Nat.zero_lt_one (I.2.2.2.2.2.2.1 _ (z_vlt (m_ix (m_idle_thr h5) (m_top_in I (z_vlt (m_idle_thr h5)) (m_idle_len I h5))))) d_MM_leave_71 ?_
        refine zz_aload_n C d_MM_leave_72 rfl ?_
        refine zz_get C (ci := 4) (N := 16) 2 rfl zi_MM (by decide) fl_MM_17 (mw_0 Nat.zero_lt_one) rfl d_MM_leave_73 ?_
        refine zz_aload_n C d_MM_leave_76 rfl ?_
        refine zz_get C (ci := 4) (N := 16) 12 rfl zi_MM (by decide) fl_MM_48 (mw_0 Nat.zero_lt_one) rfl d_MM_leave_77 ?_
        refine zz_iload_n C d_MM_leave_80 rfl ?_
        refine zz_iald C (t0 := 0) rfl (mw_12 Nat.zero_lt_one) (m_ix (m_idle_thr h5) (m_top_in I (z_vlt (m_idle_thr h5)) (m_idle_len I h5))) d_MM_leave_81 ?_
        refine zz_iald C (t0 := 0) rfl (mw_2 Nat.zero_lt_one) (I.2.2.2.2.2.2.1 _ (z_vlt (m_ix (m_idle_thr h5) (m_top_in I (z_vlt (m_idle_thr h5)) (m_idle_len I h5))))) d_MM_leave_82 ?_
        refine zz_if_ne (tgt := 96) C d_MM_leave_83 (by decide) (fun h83 => ?_) (fun h83 => ?_)
        · refine zz_aload_n C d_MM_leave_96 rfl ?_
          refine zz_get C (ci := 4) (N := 16) 11 rfl zi_MM (by decide) fl_MM_45 (mw_0 Nat.zero_lt_one) rfl d_MM_leave_97 ?_
          refine zz_iload_n C d_MM_leave_100 rfl ?_
          refine zz_iald C (t0 := 0) rfl (mw_11 Nat.zero_lt_one) (m_idle_thr h5) d_MM_leave_101 ?_
          have h54 : ¬ σ 14 0 (z_ix (mf_lvK σ t)) = 0 := h54
          rw [z_at, if_pos ⟨rfl, rfl, rfl⟩] at h83
          have h83 : ¬ σ 2 0 (z_ix (mf_lvZ σ t)) - 1 = 0 := h83
          exact mr_i C hr rfl d_MM_leave_102 (by simp only [mf_leave, if_pos h5, if_neg h38, if_neg h54, if_neg h83] <;> simp [z_at, m_empty_11]) (by simp only [mf_leave, if_pos h5, if_neg h38, if_neg h54, if_neg h83] <;> simp [mf_lvA, mf_lvB, mf_lvZ, mf_lvK, z_at, h38])
        · refine zz_aload_n C d_MM_leave_86 rfl ?_
          refine zz_aload_n C d_MM_leave_87 rfl ?_
          refine zz_get C (ci := 4) (N := 16) 12 rfl zi_MM (by decide) fl_MM_48 (mw_0 Nat.zero_lt_one) rfl d_MM_leave_88 ?_
          refine zz_iload_n C d_MM_leave_91 rfl ?_
          refine zz_iald C (t0 := 0) rfl (mw_12 Nat.zero_lt_one) (m_ix (m_idle_thr h5) (m_top_in I (z_vlt (m_idle_thr h5)) (m_idle_len I h5))) d_MM_leave_92 ?_
          refine mc_Vv C (mw_0 Nat.zero_lt_one) rfl s_MM_88 (c_MM_empty (I.2.2.2.2.2.2.1 _ (z_vlt (m_ix (m_idle_thr h5) (m_top_in I (z_vlt (m_idle_thr h5)) (m_idle_len I h5)))))) rfl rfl d_MM_leave_93 k_MM_empty ⟨by decide, by decide⟩ rfl ?_
          refine zz_aload_n C d_MM_leave_96 rfl ?_
          refine zz_get C (ci := 4) (N := 16) 11 rfl zi_MM (by decide) fl_MM_45 (mw_0 Nat.zero_lt_one) rfl d_MM_leave_97 ?_
          refine zz_iload_n C d_MM_leave_100 rfl ?_
          refine zz_iald C (t0 := 0) rfl (mw_11 Nat.zero_lt_one) (m_idle_thr h5) d_MM_leave_101 ?_
          have h54 : ¬ σ 14 0 (z_ix (mf_lvK σ t)) = 0 := h54
          rw [z_at, if_pos ⟨rfl, rfl, rfl⟩] at h83
          have h83 : σ 2 0 (z_ix (mf_lvZ σ t)) - 1 = 0 := h83
          exact mr_i C hr rfl d_MM_leave_102 (by simp only [mf_leave, if_pos h5, if_neg h38, if_neg h54, if_pos h83] <;> simp [z_at, m_empty_11]) (by simp only [mf_leave, if_pos h5, if_neg h38, if_neg h54, if_pos h83] <;> simp [mf_lvA, mf_lvB, mf_lvZ, mf_lvK, z_at, h38])
    · refine zz_aload_n C d_MM_leave_41 rfl ?_
      refine zz_get C (ci := 4) (N := 16) 9 rfl zi_MM (by decide) fl_MM_39 (mw_0 Nat.zero_lt_one) rfl d_MM_leave_42 ?_
      refine zz_iload_n C d_MM_leave_45 rfl ?_
      refine zz_iconst (x := 0) C d_MM_leave_46 rfl ?_
      refine ms_9 C Nat.zero_lt_one (m_idle_thr h5) d_MM_leave_47 ?_
      refine zz_aload_n C d_MM_leave_48 rfl ?_
      refine zz_get C (ci := 4) (N := 16) 14 rfl zi_MM (by decide) fl_MM_54 (mw_0 Nat.zero_lt_one) rfl d_MM_leave_49 ?_
      refine zz_iload_n C d_MM_leave_52 rfl ?_
      refine zz_zald C (t0 := 1) rfl (mw_14 Nat.zero_lt_one) (m_ix (m_idle_thr h5) (m_top_in I (z_vlt (m_idle_thr h5)) (m_idle_len I h5))) d_MM_leave_53 ?_
      refine zz_if_eq (tgt := 96) C d_MM_leave_54 (by decide) (fun h54 => ?_) (fun h54 => ?_)
      · refine zz_aload_n C d_MM_leave_96 rfl ?_
        refine zz_get C (ci := 4) (N := 16) 11 rfl zi_MM (by decide) fl_MM_45 (mw_0 Nat.zero_lt_one) rfl d_MM_leave_97 ?_
        refine zz_iload_n C d_MM_leave_100 rfl ?_
        refine zz_iald C (t0 := 0) rfl (mw_11 Nat.zero_lt_one) (m_idle_thr h5) d_MM_leave_101 ?_
        have h54 : σ 14 0 (z_ix (mf_lvK σ t)) = 0 := h54
        exact mr_i C hr rfl d_MM_leave_102 (by simp only [mf_leave, if_pos h5, if_pos h38, if_pos h54] <;> simp [z_at, m_empty_11]) (by simp only [mf_leave, if_pos h5, if_pos h38, if_pos h54] <;> simp [mf_lvA, mf_lvB, mf_lvZ, mf_lvK, z_at, h38])
      · refine zz_aload_n C d_MM_leave_57 rfl ?_
        refine zz_get C (ci := 4) (N := 16) 2 rfl zi_MM (by decide) fl_MM_17 (mw_0 Nat.zero_lt_one) rfl d_MM_leave_58 ?_
        refine zz_aload_n C d_MM_leave_61 rfl ?_
        refine zz_get C (ci := 4) (N := 16) 12 rfl zi_MM (by decide) fl_MM_48 (mw_0 Nat.zero_lt_one) rfl d_MM_leave_62 ?_
        refine zz_iload_n C d_MM_leave_65 rfl ?_
        refine zz_iald C (t0 := 0) rfl (mw_12 Nat.zero_lt_one) (m_ix (m_idle_thr h5) (m_top_in I (z_vlt (m_idle_thr h5)) (m_idle_len I h5))) d_MM_leave_66 ?_
        refine zz_dup2 C d_MM_leave_67 rfl rfl ?_
        refine zz_iald C (t0 := 0) rfl (mw_2 Nat.zero_lt_one) (I.2.2.2.2.2.2.1 _ (z_vlt (m_ix (m_idle_thr h5) (m_top_in I (z_vlt (m_idle_thr h5)) (m_idle_len I h5))))) d_MM_leave_68 ?_
        refine zz_iconst (x := 1) C d_MM_leave_69 rfl ?_
        refine zz_isub C d_MM_leave_70 ?_
        refine ms_2 C Nat.zero_lt_one (I.2.2.2.2.2.2.1 _ (z_vlt (m_ix (m_idle_thr h5) (m_top_in I (z_vlt (m_idle_thr h5)) (m_idle_len I h5))))) d_MM_leave_71 ?_
        refine zz_aload_n C d_MM_leave_72 rfl ?_
        refine zz_get C (ci := 4) (N := 16) 2 rfl zi_MM (by decide) fl_MM_17 (mw_0 Nat.zero_lt_one) rfl d_MM_leave_73 ?_
        refine zz_aload_n C d_MM_leave_76 rfl ?_
        refine zz_get C (ci := 4) (N := 16) 12 rfl zi_MM (by decide) fl_MM_48 (mw_0 Nat.zero_lt_one) rfl d_MM_leave_77 ?_
        refine zz_iload_n C d_MM_leave_80 rfl ?_
        refine zz_iald C (t0 := 0) rfl (mw_12 Nat.zero_lt_one) (m_ix (m_idle_thr h5) (m_top_in I (z_vlt (m_idle_thr h5)) (m_idle_len I h5))) d_MM_leave_81 ?_
        refine zz_iald C (t0 := 0) rfl (mw_2 Nat.zero_lt_one) (I.2.2.2.2.2.2.1 _ (z_vlt (m_ix (m_idle_thr h5) (m_top_in I (z_vlt (m_idle_thr h5)) (m_idle_len I h5))))) d_MM_leave_82 ?_
        refine zz_if_ne (tgt := 96) C d_MM_leave_83 (by decide) (fun h83 => ?_) (fun h83 => ?_)
        · refine zz_aload_n C d_MM_leave_96 rfl ?_
          refine zz_get C (ci := 4) (N := 16) 11 rfl zi_MM (by decide) fl_MM_45 (mw_0 Nat.zero_lt_one) rfl d_MM_leave_97 ?_
          refine zz_iload_n C d_MM_leave_100 rfl ?_
          refine zz_iald C (t0 := 0) rfl (mw_11 Nat.zero_lt_one) (m_idle_thr h5) d_MM_leave_101 ?_
          have h54 : ¬ σ 14 0 (z_ix (mf_lvK σ t)) = 0 := h54
          rw [z_at, if_pos ⟨rfl, rfl, rfl⟩] at h83
          have h83 : ¬ σ 2 0 (z_ix (mf_lvZ σ t)) - 1 = 0 := h83
          exact mr_i C hr rfl d_MM_leave_102 (by simp only [mf_leave, if_pos h5, if_pos h38, if_neg h54, if_neg h83] <;> simp [z_at, m_empty_11]) (by simp only [mf_leave, if_pos h5, if_pos h38, if_neg h54, if_neg h83] <;> simp [mf_lvA, mf_lvB, mf_lvZ, mf_lvK, z_at, h38])
        · refine zz_aload_n C d_MM_leave_86 rfl ?_
          refine zz_aload_n C d_MM_leave_87 rfl ?_
          refine zz_get C (ci := 4) (N := 16) 12 rfl zi_MM (by decide) fl_MM_48 (mw_0 Nat.zero_lt_one) rfl d_MM_leave_88 ?_
          refine zz_iload_n C d_MM_leave_91 rfl ?_
          refine zz_iald C (t0 := 0) rfl (mw_12 Nat.zero_lt_one) (m_ix (m_idle_thr h5) (m_top_in I (z_vlt (m_idle_thr h5)) (m_idle_len I h5))) d_MM_leave_92 ?_
          refine mc_Vv C (mw_0 Nat.zero_lt_one) rfl s_MM_88 (c_MM_empty (I.2.2.2.2.2.2.1 _ (z_vlt (m_ix (m_idle_thr h5) (m_top_in I (z_vlt (m_idle_thr h5)) (m_idle_len I h5)))))) rfl rfl d_MM_leave_93 k_MM_empty ⟨by decide, by decide⟩ rfl ?_
          refine zz_aload_n C d_MM_leave_96 rfl ?_
          refine zz_get C (ci := 4) (N := 16) 11 rfl zi_MM (by decide) fl_MM_45 (mw_0 Nat.zero_lt_one) rfl d_MM_leave_97 ?_
          refine zz_iload_n C d_MM_leave_100 rfl ?_
          refine zz_iald C (t0 := 0) rfl (mw_11 Nat.zero_lt_one) (m_idle_thr h5) d_MM_leave_101 ?_
          have h54 : ¬ σ 14 0 (z_ix (mf_lvK σ t)) = 0 := h54
          rw [z_at, if_pos ⟨rfl, rfl, rfl⟩] at h83
          have h83 : σ 2 0 (z_ix (mf_lvZ σ t)) - 1 = 0 := h83
          exact mr_i C hr rfl d_MM_leave_102 (by simp only [mf_leave, if_pos h5, if_pos h38, if_neg h54, if_pos h83] <;> simp [z_at, m_empty_11]) (by simp only [mf_leave, if_pos h5, if_pos h38, if_neg h54, if_pos h83] <;> simp [mf_lvA, mf_lvB, mf_lvZ, mf_lvK, z_at, h38])
  · refine zz_iconst (x := -1) C d_MM_leave_8 rfl ?_
    exact mr_i C hr rfl d_MM_leave_9 (by simp only [mf_leave, mf_lvK, mf_lvA, mf_lvZ, mf_lvB, m_empty_11, if_neg h5] <;> simp [mf_leave, mf_lvK, mf_lvA, mf_lvZ, mf_lvB, m_empty_11, z_at]) (by simp only [mf_leave, mf_lvK, mf_lvA, mf_lvZ, mf_lvB, m_empty_11, if_neg h5] <;> simp [mf_leave, mf_lvK, mf_lvA, mf_lvZ, mf_lvB, m_empty_11, z_at])
set_option maxHeartbeats 400000 in
set_option maxRecDepth 100000 in
theorem c_MM_make {l : Launch} {D : va_G} {dA : Nat → ClassId} {lo n : Nat} {σ : zS} {t f : Int32} {r : Int32} {τ : zS} (I : mI σ) (hR : mf_make σ t f = (r, τ)) : mM l y_MM_make b_MM_make 6 (some .int) 1 D dA lo n [.ref (ma0 lo 0), .int t, .int f] σ (some (.int (r))) τ := by
  refine zM_of (lv0 := [(0, .ref (ma0 lo 0)), (1, .int t), (2, .int f)]) (by decide) rfl rfl rfl ?_
  intro p e s m below meth c C hr hnm hsz
  have C : zC p s m ([.ref (ma0 lo 0), .int t, .int f] : List Value).toArray meth c b_MM_make 6 R_MM D dA := C
  refine zz_aload_n C d_MM_make_0 rfl ?_
  refine zz_iload_n C d_MM_make_1 rfl ?_
  refine mc_Vi C (mw_0 Nat.zero_lt_one) rfl s_MM_72 c_MM_idle rfl rfl d_MM_make_2 k_MM_idle ⟨by decide, by decide⟩ rfl ?_
  refine zz_if_ne (tgt := 17) C d_MM_make_5 (by decide) (fun h5 => ?_) (fun h5 => ?_)
  · refine zz_iconst (x := -1) C d_MM_make_17 rfl ?_
    simp only [mf_make, if_neg h5, Prod.mk.injEq] at hR
    exact mr_i C hr rfl d_MM_make_18 hR.1 hR.2
  · refine zz_iload_n C d_MM_make_8 rfl ?_
    refine zz_if_lt (tgt := 17) C d_MM_make_9 (by decide) (fun h9 => ?_) (fun h9 => ?_)
    · refine zz_iconst (x := -1) C d_MM_make_17 rfl ?_
      simp only [mf_make, if_pos h5, if_pos h9, Prod.mk.injEq] at hR
      exact mr_i C hr rfl d_MM_make_18 hR.1 hR.2
    · refine zz_iload_n C d_MM_make_12 rfl ?_
      refine zz_iconst (x := 4) C d_MM_make_13 rfl ?_
      refine zz_icmp_le (tgt := 19) C d_MM_make_14 (by decide) (fun h14 => ?_) (fun h14 => ?_)
      · refine zz_aload_n C d_MM_make_19 rfl ?_
        refine zz_iload_n C d_MM_make_20 rfl ?_
        refine mc_Vi C (mw_0 Nat.zero_lt_one) rfl s_MM_92 (c_MM_current (m_idle_thr h5) (m_top_in I (z_vlt (m_idle_thr h5)) (m_idle_len I h5))) rfl rfl d_MM_make_21 k_MM_current ⟨by decide, by decide⟩ rfl ?_
        refine zz_istore_n C d_MM_make_24 (by decide) ?_
        refine zz_iconst (x := 0) C d_MM_make_25 rfl ?_
        refine zz_istore C d_MM_make_26 (by decide) ?_
        simp only [mf_make, if_pos h5, if_neg h9, if_pos h14] at hR
        have hcu : vp_in (mf_current σ t) 10 := by
          unfold mf_current
          rw [m_ct]
          exact I.2.2.2.2.2.2.1 _ (z_vlt (m_ix (m_idle_thr h5) (m_top_in I (z_vlt (m_idle_thr h5)) (m_idle_len I h5))))
        have fin : ∀ ov : Int32, ov = mf_free σ → vp_in ov 40 → mZ p l e 1 s m ([.ref (ma0 lo 0), .int t, .int f] : List Value).toArray below meth c D dA lo 6 n (some (.int (r))) (τ) (σ) 51 [(0, .ref (ma0 lo 0)), (1, .int t), (2, .int f), (3, .int (mf_current σ t)), (4, .int ov)] [] := by
          intro ov hov hv
          have hne : ¬ ov = 40 := fun q => by rw [q] at hv; exact absurd hv (by unfold vp_in; decide)
          rw [← hov, if_neg hne] at hR
          have loop2 : ∀ (T : zS), mf_ff ov 4 0 (z_up (z_up σ 5 0 (z_ix ov) (mf_current σ t)) 6 0 (z_ix ov) f) = T → ov = r → T = τ → ∀ (k i : Nat) (iv : Int32) (σ1 : zS), iv = nI i → i + k = 4 → mf_ff ov k i σ1 = T → mZ p l e 1 s m ([.ref (ma0 lo 0), .int t, .int f] : List Value).toArray below meth c D dA lo 6 n (some (.int (r))) (τ) (σ1) 98 [(0, .ref (ma0 lo 0)), (4, .int ov), (5, .int iv)] [] := by
            intro T hT hr1 hT2 k
            induction k with
            | zero =>
              intro i iv σ1 hiv hik hres
              have hres : σ1 = T := hres
              refine zz_iload C d_MM_make_98 rfl ?_
              refine zz_iconst (x := 4) C d_MM_make_100 rfl ?_
              refine zz_icmp_ge (tgt := 123) C d_MM_make_101 (by decide) (fun h101 => ?_) (fun h101 => ?_)
              · refine zz_iload C d_MM_make_123 rfl ?_
                exact mr_i C hr rfl d_MM_make_125 hr1 (by rw [hres]; exact hT2)
              · exact absurd (z_ge (N := 4) hiv rfl (by omega) (by omega)) h101
            | succ k ih =>
              intro i iv σ1 hiv hik hres
              unfold mf_ff at hres
              refine zz_iload C d_MM_make_98 rfl ?_
              refine zz_iconst (x := 4) C d_MM_make_100 rfl ?_
              refine zz_icmp_ge (tgt := 123) C d_MM_make_101 (by decide) (fun h101 => ?_) (fun h101 => ?_)
              · exact absurd h101 (z_nge hiv rfl (show i < 4 by omega) (by decide))
              · refine zz_aload_n C d_MM_make_104 rfl ?_
                refine zz_get C (ci := 4) (N := 16) 7 rfl zi_MM (by decide) fl_MM_32 (mw_0 Nat.zero_lt_one) rfl d_MM_make_105 ?_
                refine zz_iload C d_MM_make_108 rfl ?_
                refine zz_iconst (x := 4) C d_MM_make_110 rfl ?_
                refine zz_imul C d_MM_make_111 ?_
                refine zz_iload C d_MM_make_112 rfl ?_
                refine zz_iadd C d_MM_make_114 ?_
                refine zz_iconst (x := -1) C d_MM_make_115 rfl ?_
                refine ms_7 C Nat.zero_lt_one (m_ix4 hv (z_vinI hiv (by omega) (by decide))) d_MM_make_116 ?_
                refine zz_iinc (d' := 1) C d_MM_make_117 rfl rfl (by decide) ?_
                refine zz_goto (tgt := 98) C d_MM_make_120 (by decide) ?_
                refine zz_lv [0, 4, 5] rfl ?_
                exact ih (i + 1) _ _ (z_sI hiv) (by omega) (by rw [hiv]; exact hres)
          refine zz_iload C d_MM_make_51 rfl ?_
          refine zz_bipush (x := 40) C d_MM_make_53 rfl ?_
          refine zz_icmp_eq (tgt := 76) C d_MM_make_55 (by decide) (fun h55 => ?_) (fun h55 => ?_)
          · exact absurd h55 hne
          · refine zz_aload_n C d_MM_make_58 rfl ?_
            refine zz_iload_n C d_MM_make_59 rfl ?_
            refine mc_Vi C (mw_0 Nat.zero_lt_one) rfl s_MM_95 c_MM_used rfl rfl d_MM_make_60 k_MM_used ⟨by decide, by decide⟩ rfl ?_
            refine zz_iconst (x := 1) C d_MM_make_63 rfl ?_
            refine zz_iadd C d_MM_make_64 ?_
            refine zz_iload_n C d_MM_make_65 rfl ?_
            refine zz_iadd C d_MM_make_66 ?_
            refine zz_aload_n C d_MM_make_67 rfl ?_
            refine zz_get C (ci := 4) (N := 16) 1 rfl zi_MM (by decide) fl_MM_13 (mw_0 Nat.zero_lt_one) rfl d_MM_make_68 ?_
            refine zz_iload_n C d_MM_make_71 rfl ?_
            refine zz_iald C (t0 := 0) rfl (mw_1 Nat.zero_lt_one) hcu d_MM_make_72 ?_
            refine zz_icmp_le (tgt := 79) C d_MM_make_73 (by decide) (fun h73 => ?_) (fun h73 => ?_)
            · refine zz_aload_n C d_MM_make_79 rfl ?_
              refine zz_get C (ci := 4) (N := 16) 5 rfl zi_MM (by decide) fl_MM_26 (mw_0 Nat.zero_lt_one) rfl d_MM_make_80 ?_
              refine zz_iload C d_MM_make_83 rfl ?_
              refine zz_iload_n C d_MM_make_85 rfl ?_
              refine ms_5 C Nat.zero_lt_one hv d_MM_make_86 ?_
              refine zz_aload_n C d_MM_make_87 rfl ?_
              refine zz_get C (ci := 4) (N := 16) 6 rfl zi_MM (by decide) fl_MM_29 (mw_0 Nat.zero_lt_one) rfl d_MM_make_88 ?_
              refine zz_iload C d_MM_make_91 rfl ?_
              refine zz_iload_n C d_MM_make_93 rfl ?_
              refine ms_6 C Nat.zero_lt_one hv d_MM_make_94 ?_
              refine zz_iconst (x := 0) C d_MM_make_95 rfl ?_
              refine zz_istore C d_MM_make_96 (by decide) ?_
              simp only [if_pos h73, Prod.mk.injEq] at hR
              refine zz_lv [0, 4, 5] rfl ?_
              exact loop2 _ rfl hR.1 hR.2 4 0 _ _ nI_0.symm rfl rfl
            · refine zz_bipush (x := -2) C d_MM_make_76 rfl ?_
              simp only [if_neg h73, Prod.mk.injEq] at hR
              exact mr_i C hr rfl d_MM_make_78 hR.1 hR.2
        have loop1 : ∀ (k i : Nat) (iv : Int32), iv = nI i → i + k = 40 → mf_fr σ k i = mf_free σ → mZ p l e 1 s m ([.ref (ma0 lo 0), .int t, .int f] : List Value).toArray below meth c D dA lo 6 n (some (.int (r))) (τ) (σ) 28 [(0, .ref (ma0 lo 0)), (1, .int t), (2, .int f), (3, .int (mf_current σ t)), (4, .int iv)] [] := by
          intro k
          induction k with
          | zero =>
            intro i iv hiv hik hres
            obtain rfl : i = 40 := by omega
            have hf : mf_free σ = 40 := hres.symm
            simp only [if_pos hf, Prod.mk.injEq] at hR
            refine zz_iload C d_MM_make_28 rfl ?_
            refine zz_bipush (x := 40) C d_MM_make_30 rfl ?_
            refine zz_icmp_ge (tgt := 51) C d_MM_make_32 (by decide) (fun h32 => ?_) (fun h32 => ?_)
            · refine zz_iload C d_MM_make_51 rfl ?_
              refine zz_bipush (x := 40) C d_MM_make_53 rfl ?_
              refine zz_icmp_eq (tgt := 76) C d_MM_make_55 (by decide) (fun h55 => ?_) (fun h55 => ?_)
              · refine zz_bipush (x := -2) C d_MM_make_76 rfl ?_
                exact mr_i C hr rfl d_MM_make_78 hR.1 hR.2
              · exact absurd hiv h55
            · exact absurd (z_ge (N := 40) hiv rfl (by omega) (by omega)) h32
          | succ k ih =>
            intro i iv hiv hik hres
            unfold mf_fr at hres
            have hix : iv.toNatClampNeg = i := z_ixI hiv (by omega)
            refine zz_iload C d_MM_make_28 rfl ?_
            refine zz_bipush (x := 40) C d_MM_make_30 rfl ?_
            refine zz_icmp_ge (tgt := 51) C d_MM_make_32 (by decide) (fun h32 => ?_) (fun h32 => ?_)
            · exact absurd h32 (z_nge hiv rfl (show i < 40 by omega) (by decide))
            · refine zz_aload_n C d_MM_make_35 rfl ?_
              refine zz_get C (ci := 4) (N := 16) 5 rfl zi_MM (by decide) fl_MM_26 (mw_0 Nat.zero_lt_one) rfl d_MM_make_36 ?_
              refine zz_iload C d_MM_make_39 rfl ?_
              refine zz_iald C (t0 := 0) rfl (mw_5 Nat.zero_lt_one) (z_vinI hiv (by omega) (by decide)) d_MM_make_41 ?_
              refine zz_if_lt (tgt := 51) C d_MM_make_42 (by decide) (fun h42 => ?_) (fun h42 => ?_)
              · rw [hix] at h42
                rw [if_pos h42, ← hiv] at hres
                refine zz_lv [0, 1, 2, 3, 4] rfl ?_
                exact fin iv hres (z_vinI hiv (by omega) (by decide))
              · refine zz_iinc (d' := 1) C d_MM_make_45 rfl rfl (by decide) ?_
                refine zz_goto (tgt := 28) C d_MM_make_48 (by decide) ?_
                rw [hix] at h42
                rw [if_neg h42] at hres
                refine zz_lv [0, 1, 2, 3, 4] rfl ?_
                exact ih (i + 1) _ (z_sI hiv) (by omega) hres
        refine zz_lv [0, 1, 2, 3, 4] rfl ?_
        exact loop1 40 0 _ nI_0.symm rfl rfl
      · refine zz_iconst (x := -1) C d_MM_make_17 rfl ?_
        simp only [mf_make, if_pos h5, if_neg h9, if_neg h14, Prod.mk.injEq] at hR
        exact mr_i C hr rfl d_MM_make_18 hR.1 hR.2
set_option maxHeartbeats 400000 in
set_option maxRecDepth 100000 in
theorem c_MM_keeps {l : Launch} {D : va_G} {dA : Nat → ClassId} {lo n : Nat} {σ : zS} {o : Int32} (ho : z_o 40 o) : mM l y_MM_keeps b_MM_keeps 2 (some .boolean) 0 D dA lo n [.ref (ma0 lo 0), .int o] σ (some (.int ((mf_keeps σ o).1))) ((mf_keeps σ o).2) := by
  refine zM_of (lv0 := [(0, .ref (ma0 lo 0)), (1, .int o)]) (by decide) rfl rfl rfl ?_
  intro p e s m below meth c C hr hnm hsz
  have C : zC p s m ([.ref (ma0 lo 0), .int o] : List Value).toArray meth c b_MM_keeps 2 R_MM D dA := C
  refine zz_iload_n C d_MM_keeps_0 rfl ?_
  refine zz_if_lt (tgt := 22) C d_MM_keeps_1 (by decide) (fun h1 => ?_) (fun h1 => ?_)
  · refine zz_iconst (x := 0) C d_MM_keeps_22 rfl ?_
    exact mr_i C hr rfl d_MM_keeps_23 (by simp only [mf_keeps, if_pos h1] <;> simp [mf_keeps, z_at]) (by simp only [mf_keeps, if_pos h1] <;> simp [mf_keeps, z_at])
  · refine zz_aload_n C d_MM_keeps_4 rfl ?_
    refine zz_get C (ci := 4) (N := 16) 5 rfl zi_MM (by decide) fl_MM_26 (mw_0 Nat.zero_lt_one) rfl d_MM_keeps_5 ?_
    refine zz_iload_n C d_MM_keeps_8 rfl ?_
    refine zz_iald C (t0 := 0) rfl (mw_5 Nat.zero_lt_one) (z_nlt ho h1) d_MM_keeps_9 ?_
    refine zz_if_ne (tgt := 22) C d_MM_keeps_10 (by decide) (fun h10 => ?_) (fun h10 => ?_)
    · refine zz_iconst (x := 0) C d_MM_keeps_22 rfl ?_
      exact mr_i C hr rfl d_MM_keeps_23 (by simp only [mf_keeps, if_neg h1, if_neg h10] <;> simp [mf_keeps, z_at]) (by simp only [mf_keeps, if_neg h1, if_neg h10] <;> simp [mf_keeps, z_at])
    · refine zz_aload_n C d_MM_keeps_13 rfl ?_
      refine zz_get C (ci := 4) (N := 16) 8 rfl zi_MM (by decide) fl_MM_35 (mw_0 Nat.zero_lt_one) rfl d_MM_keeps_14 ?_
      refine zz_iload_n C d_MM_keeps_17 rfl ?_
      refine zz_zald C (t0 := 1) rfl (mw_8 Nat.zero_lt_one) (z_nlt ho h1) d_MM_keeps_18 ?_
      refine zz_if_eq (tgt := 24) C d_MM_keeps_19 (by decide) (fun h19 => ?_) (fun h19 => ?_)
      · refine zz_aload_n C d_MM_keeps_24 rfl ?_
        refine zz_get C (ci := 4) (N := 16) 8 rfl zi_MM (by decide) fl_MM_35 (mw_0 Nat.zero_lt_one) rfl d_MM_keeps_25 ?_
        refine zz_iload_n C d_MM_keeps_28 rfl ?_
        refine zz_iconst (x := 1) C d_MM_keeps_29 rfl ?_
        refine ms_8 C Nat.zero_lt_one (z_nlt ho h1) d_MM_keeps_30 ?_
        refine zz_iconst (x := 1) C d_MM_keeps_31 rfl ?_
        exact mr_i C hr rfl d_MM_keeps_32 (by simp only [mf_keeps, if_neg h1, if_pos h10, if_pos h19] <;> simp [mf_keeps, z_at]) (by simp only [mf_keeps, if_neg h1, if_pos h10, if_pos h19] <;> simp [mf_keeps, z_at])
      · refine zz_iconst (x := 0) C d_MM_keeps_22 rfl ?_
        exact mr_i C hr rfl d_MM_keeps_23 (by simp only [mf_keeps, if_neg h1, if_pos h10, if_neg h19] <;> simp [mf_keeps, z_at]) (by simp only [mf_keeps, if_neg h1, if_pos h10, if_neg h19] <;> simp [mf_keeps, z_at])
set_option maxHeartbeats 400000 in
set_option maxRecDepth 100000 in
theorem c_MM_keep {l : Launch} {D : va_G} {dA : Nat → ClassId} {lo n : Nat} {σ : zS} {r : Int32} {τ : zS} (I : mI σ) (hT : mf_l3 41 (1, mf_l0 40 0 σ) = τ) (hr2 : mf_kc τ 40 0 0 = r) : mM l y_MM_keep b_MM_keep 7 (some .int) 1 D dA lo n [.ref (ma0 lo 0)] σ (some (.int (r))) τ := by
  refine zM_of (lv0 := [(0, .ref (ma0 lo 0))]) (by decide) rfl rfl rfl ?_
  intro p e s m below meth c C hr hnm hsz
  have C : zC p s m ([.ref (ma0 lo 0)] : List Value).toArray meth c b_MM_keep 7 R_MM D dA := C
  have loopD : ∀ (k i : Nat) (q iv : Int32), iv = nI i → i + k = 40 → mf_kc τ k i q = r → mZ p l e 1 s m ([.ref (ma0 lo 0)] : List Value).toArray below meth c D dA lo 7 n (some (.int (r))) (τ) (τ) 173 [(0, .ref (ma0 lo 0)), (1, .int q), (3, .int iv)] [] := by
    intro k
    induction k with
    | zero =>
      intro i q iv hiv hik hres
      refine zz_iload_n C d_MM_keep_173 rfl ?_
      refine zz_bipush (x := 40) C d_MM_keep_174 rfl ?_
      refine zz_icmp_ge (tgt := 197) C d_MM_keep_176 (by decide) (fun h176 => ?_) (fun h176 => ?_)
      · refine zz_iload_n C d_MM_keep_197 rfl ?_
        exact mr_i C hr rfl d_MM_keep_198 hres rfl
      · exact absurd (z_ge (N := 40) hiv rfl (by omega) (by omega)) h176
    | succ k ih =>
      intro i q iv hiv hik hres
      unfold mf_kc at hres
      have hix : iv.toNatClampNeg = i := z_ixI hiv (by omega)
      refine zz_iload_n C d_MM_keep_173 rfl ?_
      refine zz_bipush (x := 40) C d_MM_keep_174 rfl ?_
      refine zz_icmp_ge (tgt := 197) C d_MM_keep_176 (by decide) (fun h176 => ?_) (fun h176 => ?_)
      · exact absurd h176 (z_nge hiv rfl (show i < 40 by omega) (by decide))
      · refine zz_aload_n C d_MM_keep_179 rfl ?_
        refine zz_get C (ci := 4) (N := 16) 8 rfl zi_MM (by decide) fl_MM_35 (mw_0 Nat.zero_lt_one) rfl d_MM_keep_180 ?_
        refine zz_iload_n C d_MM_keep_183 rfl ?_
        refine zz_zald C (t0 := 1) rfl (mw_8 Nat.zero_lt_one) (z_vinI hiv (by omega) (by decide)) d_MM_keep_184 ?_
        refine zz_if_eq (tgt := 191) C d_MM_keep_185 (by decide) (fun h185 => ?_) (fun h185 => ?_)
        · refine zz_iinc (d' := 1) C d_MM_keep_191 rfl rfl (by decide) ?_
          refine zz_goto (tgt := 173) C d_MM_keep_194 (by decide) ?_
          refine zz_lv [0, 1, 3] rfl ?_
          rw [hix] at h185
          exact ih (i + 1) _ _ (z_sI hiv) (by omega) (by rw [← hres, if_pos h185])
        · refine zz_iinc (d' := 1) C d_MM_keep_188 rfl rfl (by decide) ?_
          refine zz_iinc (d' := 1) C d_MM_keep_191 rfl rfl (by decide) ?_
          refine zz_goto (tgt := 173) C d_MM_keep_194 (by decide) ?_
          refine zz_lv [0, 1, 3] rfl ?_
          rw [hix] at h185
          exact ih (i + 1) _ _ (z_sI hiv) (by omega) (by rw [← hres, if_neg h185])
  have loopB : ∀ (k i : Nat) (q iv : Int32) (σ1 : zS), iv = nI i → i + k = 41 → mI σ1 → mf_l3 k (q, σ1) = τ → mZ p l e 1 s m ([.ref (ma0 lo 0)] : List Value).toArray below meth c D dA lo 7 n (some (.int (r))) (τ) (σ1) 27 [(0, .ref (ma0 lo 0)), (1, .int 0), (2, .int q), (3, .int iv)] [] := by
    intro k
    induction k with
    | zero =>
      intro i q iv σ1 hiv hik I1 hres
      obtain rfl : σ1 = τ := hres
      refine zz_iload_n C d_MM_keep_27 rfl ?_
      refine zz_bipush (x := 41) C d_MM_keep_28 rfl ?_
      refine zz_icmp_ge (tgt := 171) C d_MM_keep_30 (by decide) (fun h30 => ?_) (fun h30 => ?_)
      · refine zz_iconst (x := 0) C d_MM_keep_171 rfl ?_
        refine zz_istore_n C d_MM_keep_172 (by decide) ?_
        refine zz_lv [0, 1, 3] rfl ?_
        exact loopD 40 0 _ _ nI_0.symm rfl hr2
      · exact absurd (z_ge (N := 41) hiv rfl (by omega) (by omega)) h30
    | succ k ih =>
      intro i q iv σ1 hiv hik I1 hres
      unfold mf_l3 at hres
      dsimp only at hres
      have loopC : ∀ (T : Int32 × zS), mf_l3 k T = τ → ∀ (k3 i3 : Nat) (q3 iv3 : Int32) (σ3 : zS), iv3 = nI i3 → i3 + k3 = 160 → mI σ3 → mf_l2 k3 i3 (q3, σ3) = T → mZ p l e 1 s m ([.ref (ma0 lo 0)] : List Value).toArray below meth c D dA lo 7 n (some (.int (r))) (τ) (σ3) 73 [(0, .ref (ma0 lo 0)), (1, .int 0), (2, .int q3), (3, .int iv), (4, .int iv3)] [] := by
        intro T hT k3
        induction k3 with
        | zero =>
          intro i3 q3 iv3 σ3 hiv3 hik3 I3 hres3
          obtain rfl : (q3, σ3) = T := hres3
          refine zz_iload C d_MM_keep_73 rfl ?_
          refine zz_sipush (x := 160) C d_MM_keep_75 rfl ?_
          refine zz_icmp_ge (tgt := 165) C d_MM_keep_78 (by decide) (fun h78 => ?_) (fun h78 => ?_)
          · refine zz_iinc (d' := 1) C d_MM_keep_165 rfl rfl (by decide) ?_
            refine zz_goto (tgt := 27) C d_MM_keep_168 (by decide) ?_
            refine zz_lv [0, 1, 2, 3] rfl ?_
            exact ih (i + 1) _ _ _ (z_sI hiv) (by omega) I3 hT
          · exact absurd (z_ge (N := 160) hiv3 rfl (by omega) (by omega)) h78
        | succ k3 ih3 =>
          intro i3 q3 iv3 σ3 hiv3 hik3 I3 hres3
          unfold mf_l2 mf_l2s at hres3
          dsimp only at hres3
          have hix3 : iv3.toNatClampNeg = i3 := z_ixI hiv3 (by omega)
          have hd4 : (nI (i3 / 4)).toNatClampNeg = i3 / 4 := nI_clamp (by omega)
          refine zz_iload C d_MM_keep_73 rfl ?_
          refine zz_sipush (x := 160) C d_MM_keep_75 rfl ?_
          refine zz_icmp_ge (tgt := 165) C d_MM_keep_78 (by decide) (fun h78 => ?_) (fun h78 => ?_)
          · exact absurd h78 (z_nge hiv3 rfl (show i3 < 160 by omega) (by decide))
          · refine zz_iload C d_MM_keep_81 rfl ?_
            refine zz_iconst (x := 4) C d_MM_keep_83 rfl ?_
            refine zz_idiv C d_MM_keep_84 (by decide) ?_
            rw [m_d4 hiv3 (by omega)]
            refine zz_istore C d_MM_keep_85 (by decide) ?_
            refine zz_aload_n C d_MM_keep_87 rfl ?_
            refine zz_get C (ci := 4) (N := 16) 5 rfl zi_MM (by decide) fl_MM_26 (mw_0 Nat.zero_lt_one) rfl d_MM_keep_88 ?_
            refine zz_iload C d_MM_keep_91 rfl ?_
            refine zz_iald C (t0 := 0) rfl (mw_5 Nat.zero_lt_one) (z_vinI rfl (by omega) (by decide)) d_MM_keep_93 ?_
            refine zz_if_gt (tgt := 117) C d_MM_keep_94 (by decide) (fun h94 => ?_) (fun h94 => ?_)
            · refine zz_iconst (x := 1) C d_MM_keep_117 rfl ?_
              refine zz_goto (tgt := 122) C d_MM_keep_118 (by decide) ?_
              refine zz_istore C d_MM_keep_122 (by decide) ?_
              refine zz_iload C d_MM_keep_124 rfl ?_
              refine zz_if_eq (tgt := 159) C d_MM_keep_126 (by decide) (fun h126 => ?_) (fun h126 => ?_)
              · exact absurd h126 (by decide)
              · refine zz_iload C d_MM_keep_129 rfl ?_
                refine zz_iconst (x := 4) C d_MM_keep_131 rfl ?_
                refine zz_irem C d_MM_keep_132 (by decide) ?_
                rw [m_r4 hiv3 (by omega)]
                refine zz_aload_n C d_MM_keep_133 rfl ?_
                refine zz_get C (ci := 4) (N := 16) 6 rfl zi_MM (by decide) fl_MM_29 (mw_0 Nat.zero_lt_one) rfl d_MM_keep_134 ?_
                refine zz_iload C d_MM_keep_137 rfl ?_
                refine zz_iald C (t0 := 0) rfl (mw_6 Nat.zero_lt_one) (z_vinI rfl (by omega) (by decide)) d_MM_keep_139 ?_
                refine zz_icmp_ge (tgt := 159) C d_MM_keep_140 (by decide) (fun h140 => ?_) (fun h140 => ?_)
                · refine zz_iinc (d' := 1) C d_MM_keep_159 rfl rfl (by decide) ?_
                  refine zz_goto (tgt := 73) C d_MM_keep_162 (by decide) ?_
                  refine zz_lv [0, 1, 2, 3, 4] rfl ?_
                  rw [hd4] at h94
                  rw [hd4] at h140
                  rw [if_pos h94, if_pos h140] at hres3
                  exact ih3 (i3 + 1) _ _ _ (z_sI hiv3) (by omega) I3 hres3
                · refine zz_aload_n C d_MM_keep_143 rfl ?_
                  refine zz_aload_n C d_MM_keep_144 rfl ?_
                  refine zz_get C (ci := 4) (N := 16) 7 rfl zi_MM (by decide) fl_MM_32 (mw_0 Nat.zero_lt_one) rfl d_MM_keep_145 ?_
                  refine zz_iload C d_MM_keep_148 rfl ?_
                  refine zz_iald C (t0 := 0) rfl (mw_7 Nat.zero_lt_one) (z_vinI hiv3 (by omega) (by decide)) d_MM_keep_150 ?_
                  refine mc_Vi C (mw_0 Nat.zero_lt_one) rfl s_MM_111 (c_MM_keeps (by rw [hix3]; exact I3.2.2.2.2.1 _ (by omega))) rfl rfl d_MM_keep_151 k_MM_keeps ⟨by decide, by decide⟩ rfl ?_
                  refine zz_if_eq (tgt := 159) C d_MM_keep_154 (by decide) (fun h154 => ?_) (fun h154 => ?_)
                  · refine zz_iinc (d' := 1) C d_MM_keep_159 rfl rfl (by decide) ?_
                    refine zz_goto (tgt := 73) C d_MM_keep_162 (by decide) ?_
                    refine zz_lv [0, 1, 2, 3, 4] rfl ?_
                    rw [hd4] at h94
                    rw [hd4] at h140
                    rw [if_pos h94, if_neg h140] at hres3
                    rw [hix3] at h154 ⊢
                    unfold mf_ks at hres3
                    dsimp only at hres3
                    rw [if_pos h154] at hres3
                    exact ih3 (i3 + 1) _ _ _ (z_sI hiv3) (by omega) (m_keeps_I I3) hres3
                  · refine zz_iconst (x := 1) C d_MM_keep_157 rfl ?_
                    refine zz_istore_n C d_MM_keep_158 (by decide) ?_
                    refine zz_iinc (d' := 1) C d_MM_keep_159 rfl rfl (by decide) ?_
                    refine zz_goto (tgt := 73) C d_MM_keep_162 (by decide) ?_
                    refine zz_lv [0, 1, 2, 3, 4] rfl ?_
                    rw [hd4] at h94
                    rw [hd4] at h140
                    rw [if_pos h94, if_neg h140] at hres3
                    rw [hix3] at h154 ⊢
                    unfold mf_ks at hres3
                    dsimp only at hres3
                    rw [if_neg h154] at hres3
                    exact ih3 (i3 + 1) _ _ _ (z_sI hiv3) (by omega) (m_keeps_I I3) hres3
            · refine zz_aload_n C d_MM_keep_97 rfl ?_
              refine zz_get C (ci := 4) (N := 16) 5 rfl zi_MM (by decide) fl_MM_26 (mw_0 Nat.zero_lt_one) rfl d_MM_keep_98 ?_
              refine zz_iload C d_MM_keep_101 rfl ?_
              refine zz_iald C (t0 := 0) rfl (mw_5 Nat.zero_lt_one) (z_vinI rfl (by omega) (by decide)) d_MM_keep_103 ?_
              refine zz_if_ne (tgt := 121) C d_MM_keep_104 (by decide) (fun h104 => ?_) (fun h104 => ?_)
              · refine zz_iconst (x := 0) C d_MM_keep_121 rfl ?_
                refine zz_istore C d_MM_keep_122 (by decide) ?_
                refine zz_iload C d_MM_keep_124 rfl ?_
                refine zz_if_eq (tgt := 159) C d_MM_keep_126 (by decide) (fun h126 => ?_) (fun h126 => ?_)
                · refine zz_iinc (d' := 1) C d_MM_keep_159 rfl rfl (by decide) ?_
                  refine zz_goto (tgt := 73) C d_MM_keep_162 (by decide) ?_
                  refine zz_lv [0, 1, 2, 3, 4] rfl ?_
                  rw [hd4] at h94 h104
                  rw [if_neg h94, if_neg h104] at hres3
                  exact ih3 (i3 + 1) _ _ _ (z_sI hiv3) (by omega) I3 hres3
                · exact absurd rfl h126
              · refine zz_aload_n C d_MM_keep_107 rfl ?_
                refine zz_get C (ci := 4) (N := 16) 8 rfl zi_MM (by decide) fl_MM_35 (mw_0 Nat.zero_lt_one) rfl d_MM_keep_108 ?_
                refine zz_iload C d_MM_keep_111 rfl ?_
                refine zz_zald C (t0 := 1) rfl (mw_8 Nat.zero_lt_one) (z_vinI rfl (by omega) (by decide)) d_MM_keep_113 ?_
                refine zz_if_eq (tgt := 121) C d_MM_keep_114 (by decide) (fun h114 => ?_) (fun h114 => ?_)
                · refine zz_iconst (x := 0) C d_MM_keep_121 rfl ?_
                  refine zz_istore C d_MM_keep_122 (by decide) ?_
                  refine zz_iload C d_MM_keep_124 rfl ?_
                  refine zz_if_eq (tgt := 159) C d_MM_keep_126 (by decide) (fun h126 => ?_) (fun h126 => ?_)
                  · refine zz_iinc (d' := 1) C d_MM_keep_159 rfl rfl (by decide) ?_
                    refine zz_goto (tgt := 73) C d_MM_keep_162 (by decide) ?_
                    refine zz_lv [0, 1, 2, 3, 4] rfl ?_
                    rw [hd4] at h94 h104 h114
                    rw [if_neg h94, if_pos h104, if_pos h114] at hres3
                    exact ih3 (i3 + 1) _ _ _ (z_sI hiv3) (by omega) I3 hres3
                  · exact absurd rfl h126
                · refine zz_iconst (x := 1) C d_MM_keep_117 rfl ?_
                  refine zz_goto (tgt := 122) C d_MM_keep_118 (by decide) ?_
                  refine zz_istore C d_MM_keep_122 (by decide) ?_
                  refine zz_iload C d_MM_keep_124 rfl ?_
                  refine zz_if_eq (tgt := 159) C d_MM_keep_126 (by decide) (fun h126 => ?_) (fun h126 => ?_)
                  · exact absurd h126 (by decide)
                  · refine zz_iload C d_MM_keep_129 rfl ?_
                    refine zz_iconst (x := 4) C d_MM_keep_131 rfl ?_
                    refine zz_irem C d_MM_keep_132 (by decide) ?_
                    rw [m_r4 hiv3 (by omega)]
                    refine zz_aload_n C d_MM_keep_133 rfl ?_
                    refine zz_get C (ci := 4) (N := 16) 6 rfl zi_MM (by decide) fl_MM_29 (mw_0 Nat.zero_lt_one) rfl d_MM_keep_134 ?_
                    refine zz_iload C d_MM_keep_137 rfl ?_
                    refine zz_iald C (t0 := 0) rfl (mw_6 Nat.zero_lt_one) (z_vinI rfl (by omega) (by decide)) d_MM_keep_139 ?_
                    refine zz_icmp_ge (tgt := 159) C d_MM_keep_140 (by decide) (fun h140 => ?_) (fun h140 => ?_)
                    · refine zz_iinc (d' := 1) C d_MM_keep_159 rfl rfl (by decide) ?_
                      refine zz_goto (tgt := 73) C d_MM_keep_162 (by decide) ?_
                      refine zz_lv [0, 1, 2, 3, 4] rfl ?_
                      rw [hd4] at h94 h104 h114
                      rw [hd4] at h140
                      rw [if_neg h94, if_pos h104, if_neg h114, if_pos h140] at hres3
                      exact ih3 (i3 + 1) _ _ _ (z_sI hiv3) (by omega) I3 hres3
                    · refine zz_aload_n C d_MM_keep_143 rfl ?_
                      refine zz_aload_n C d_MM_keep_144 rfl ?_
                      refine zz_get C (ci := 4) (N := 16) 7 rfl zi_MM (by decide) fl_MM_32 (mw_0 Nat.zero_lt_one) rfl d_MM_keep_145 ?_
                      refine zz_iload C d_MM_keep_148 rfl ?_
                      refine zz_iald C (t0 := 0) rfl (mw_7 Nat.zero_lt_one) (z_vinI hiv3 (by omega) (by decide)) d_MM_keep_150 ?_
                      refine mc_Vi C (mw_0 Nat.zero_lt_one) rfl s_MM_111 (c_MM_keeps (by rw [hix3]; exact I3.2.2.2.2.1 _ (by omega))) rfl rfl d_MM_keep_151 k_MM_keeps ⟨by decide, by decide⟩ rfl ?_
                      refine zz_if_eq (tgt := 159) C d_MM_keep_154 (by decide) (fun h154 => ?_) (fun h154 => ?_)
                      · refine zz_iinc (d' := 1) C d_MM_keep_159 rfl rfl (by decide) ?_
                        refine zz_goto (tgt := 73) C d_MM_keep_162 (by decide) ?_
                        refine zz_lv [0, 1, 2, 3, 4] rfl ?_
                        rw [hd4] at h94 h104 h114
                        rw [hd4] at h140
                        rw [if_neg h94, if_pos h104, if_neg h114, if_neg h140] at hres3
                        rw [hix3] at h154 ⊢
                        unfold mf_ks at hres3
                        dsimp only at hres3
                        rw [if_pos h154] at hres3
                        exact ih3 (i3 + 1) _ _ _ (z_sI hiv3) (by omega) (m_keeps_I I3) hres3
                      · refine zz_iconst (x := 1) C d_MM_keep_157 rfl ?_
                        refine zz_istore_n C d_MM_keep_158 (by decide) ?_
                        refine zz_iinc (d' := 1) C d_MM_keep_159 rfl rfl (by decide) ?_
                        refine zz_goto (tgt := 73) C d_MM_keep_162 (by decide) ?_
                        refine zz_lv [0, 1, 2, 3, 4] rfl ?_
                        rw [hd4] at h94 h104 h114
                        rw [hd4] at h140
                        rw [if_neg h94, if_pos h104, if_neg h114, if_neg h140] at hres3
                        rw [hix3] at h154 ⊢
                        unfold mf_ks at hres3
                        dsimp only at hres3
                        rw [if_neg h154] at hres3
                        exact ih3 (i3 + 1) _ _ _ (z_sI hiv3) (by omega) (m_keeps_I I3) hres3
      have loopA : ∀ (T : Int32 × zS), mf_l3 k (mf_l2 160 0 T) = τ → ∀ (k2 i2 : Nat) (q2 iv2 : Int32) (σ2 : zS), iv2 = nI i2 → i2 + k2 = 4 → mI σ2 → mf_l1 k2 i2 (q2, σ2) = T → mZ p l e 1 s m ([.ref (ma0 lo 0)] : List Value).toArray below meth c D dA lo 7 n (some (.int (r))) (τ) (σ2) 42 [(0, .ref (ma0 lo 0)), (1, .int 0), (2, .int q2), (3, .int iv), (4, .int iv2)] [] := by
        intro T hT k2
        induction k2 with
        | zero =>
          intro i2 q2 iv2 σ2 hiv2 hik2 I2 hres2
          obtain rfl : (q2, σ2) = T := hres2
          refine zz_iload C d_MM_keep_42 rfl ?_
          refine zz_iconst (x := 4) C d_MM_keep_44 rfl ?_
          refine zz_icmp_ge (tgt := 70) C d_MM_keep_45 (by decide) (fun h45 => ?_) (fun h45 => ?_)
          · refine zz_iconst (x := 0) C d_MM_keep_70 rfl ?_
            refine zz_istore C d_MM_keep_71 (by decide) ?_
            refine zz_lv [0, 1, 2, 3, 4] rfl ?_
            exact loopC _ hT 160 0 _ _ _ nI_0.symm rfl I2 rfl
          · exact absurd (z_ge (N := 4) hiv2 rfl (by omega) (by omega)) h45
        | succ k2 ih2 =>
          intro i2 q2 iv2 σ2 hiv2 hik2 I2 hres2
          unfold mf_l1 mf_ks at hres2
          dsimp only at hres2
          have hix2 : iv2.toNatClampNeg = i2 := z_ixI hiv2 (by omega)
          refine zz_iload C d_MM_keep_42 rfl ?_
          refine zz_iconst (x := 4) C d_MM_keep_44 rfl ?_
          refine zz_icmp_ge (tgt := 70) C d_MM_keep_45 (by decide) (fun h45 => ?_) (fun h45 => ?_)
          · exact absurd h45 (z_nge hiv2 rfl (show i2 < 4 by omega) (by decide))
          · refine zz_aload_n C d_MM_keep_48 rfl ?_
            refine zz_aload_n C d_MM_keep_49 rfl ?_
            refine zz_get C (ci := 4) (N := 16) 15 rfl zi_MM (by decide) fl_MM_57 (mw_0 Nat.zero_lt_one) rfl d_MM_keep_50 ?_
            refine zz_iload C d_MM_keep_53 rfl ?_
            refine zz_iald C (t0 := 0) rfl (mw_15 Nat.zero_lt_one) (z_vinI hiv2 (by omega) (by decide)) d_MM_keep_55 ?_
            refine mc_Vi C (mw_0 Nat.zero_lt_one) rfl s_MM_111 (c_MM_keeps (by rw [hix2]; exact I2.2.2.2.2.2.2.2.2.1 _ (by omega))) rfl rfl d_MM_keep_56 k_MM_keeps ⟨by decide, by decide⟩ rfl ?_
            refine zz_if_eq (tgt := 64) C d_MM_keep_59 (by decide) (fun h59 => ?_) (fun h59 => ?_)
            · refine zz_iinc (d' := 1) C d_MM_keep_64 rfl rfl (by decide) ?_
              refine zz_goto (tgt := 42) C d_MM_keep_67 (by decide) ?_
              refine zz_lv [0, 1, 2, 3, 4] rfl ?_
              rw [hix2] at h59 ⊢
              rw [if_pos h59] at hres2
              exact ih2 (i2 + 1) _ _ _ (z_sI hiv2) (by omega) (m_keeps_I I2) hres2
            · refine zz_iconst (x := 1) C d_MM_keep_62 rfl ?_
              refine zz_istore_n C d_MM_keep_63 (by decide) ?_
              refine zz_iinc (d' := 1) C d_MM_keep_64 rfl rfl (by decide) ?_
              refine zz_goto (tgt := 42) C d_MM_keep_67 (by decide) ?_
              refine zz_lv [0, 1, 2, 3, 4] rfl ?_
              rw [hix2] at h59 ⊢
              rw [if_neg h59] at hres2
              exact ih2 (i2 + 1) _ _ _ (z_sI hiv2) (by omega) (m_keeps_I I2) hres2
      refine zz_iload_n C d_MM_keep_27 rfl ?_
      refine zz_bipush (x := 41) C d_MM_keep_28 rfl ?_
      refine zz_icmp_ge (tgt := 171) C d_MM_keep_30 (by decide) (fun h30 => ?_) (fun h30 => ?_)
      · exact absurd h30 (z_nge hiv rfl (show i < 41 by omega) (by decide))
      · refine zz_iload_n C d_MM_keep_33 rfl ?_
        refine zz_if_eq (tgt := 171) C d_MM_keep_34 (by decide) (fun h34 => ?_) (fun h34 => ?_)
        · refine zz_iconst (x := 0) C d_MM_keep_171 rfl ?_
          refine zz_istore_n C d_MM_keep_172 (by decide) ?_
          rw [if_pos h34] at hres
          subst hres
          refine zz_lv [0, 1, 3] rfl ?_
          exact loopD 40 0 _ _ nI_0.symm rfl hr2
        · refine zz_iconst (x := 0) C d_MM_keep_37 rfl ?_
          refine zz_istore_n C d_MM_keep_38 (by decide) ?_
          refine zz_iconst (x := 0) C d_MM_keep_39 rfl ?_
          refine zz_istore C d_MM_keep_40 (by decide) ?_
          rw [if_neg h34] at hres
          refine zz_lv [0, 1, 2, 3, 4] rfl ?_
          exact loopA _ hres 4 0 _ _ _ nI_0.symm rfl I1 rfl
  have loop0 : ∀ (k i : Nat) (iv : Int32) (σ1 : zS), iv = nI i → i + k = 40 → mI σ1 → mf_l3 41 (1, mf_l0 k i σ1) = τ → mZ p l e 1 s m ([.ref (ma0 lo 0)] : List Value).toArray below meth c D dA lo 7 n (some (.int (r))) (τ) (σ1) 4 [(0, .ref (ma0 lo 0)), (1, .int 0), (2, .int iv)] [] := by
    intro k
    induction k with
    | zero =>
      intro i iv σ1 hiv hik I1 hres
      refine zz_iload_n C d_MM_keep_4 rfl ?_
      refine zz_bipush (x := 40) C d_MM_keep_5 rfl ?_
      refine zz_icmp_ge (tgt := 23) C d_MM_keep_7 (by decide) (fun h7 => ?_) (fun h7 => ?_)
      · refine zz_iconst (x := 1) C d_MM_keep_23 rfl ?_
        refine zz_istore_n C d_MM_keep_24 (by decide) ?_
        refine zz_iconst (x := 0) C d_MM_keep_25 rfl ?_
        refine zz_istore_n C d_MM_keep_26 (by decide) ?_
        refine zz_lv [0, 1, 2, 3] rfl ?_
        exact loopB 41 0 _ _ _ nI_0.symm rfl I1 hres
      · exact absurd (z_ge (N := 40) hiv rfl (by omega) (by omega)) h7
    | succ k ih =>
      intro i iv σ1 hiv hik I1 hres
      unfold mf_l0 at hres
      have hix : iv.toNatClampNeg = i := z_ixI hiv (by omega)
      refine zz_iload_n C d_MM_keep_4 rfl ?_
      refine zz_bipush (x := 40) C d_MM_keep_5 rfl ?_
      refine zz_icmp_ge (tgt := 23) C d_MM_keep_7 (by decide) (fun h7 => ?_) (fun h7 => ?_)
      · exact absurd h7 (z_nge hiv rfl (show i < 40 by omega) (by decide))
      · refine zz_aload_n C d_MM_keep_10 rfl ?_
        refine zz_get C (ci := 4) (N := 16) 8 rfl zi_MM (by decide) fl_MM_35 (mw_0 Nat.zero_lt_one) rfl d_MM_keep_11 ?_
        refine zz_iload_n C d_MM_keep_14 rfl ?_
        refine zz_iconst (x := 0) C d_MM_keep_15 rfl ?_
        refine ms_8 C Nat.zero_lt_one (z_vinI hiv (by omega) (by decide)) d_MM_keep_16 ?_
        refine zz_iinc (d' := 1) C d_MM_keep_17 rfl rfl (by decide) ?_
        refine zz_goto (tgt := 4) C d_MM_keep_20 (by decide) ?_
        refine zz_lv [0, 1, 2] rfl ?_
        rw [hix]
        exact ih (i + 1) _ _ (z_sI hiv) (by omega) (m_I8 I1) hres
  refine zz_iconst (x := 0) C d_MM_keep_0 rfl ?_
  refine zz_istore_n C d_MM_keep_1 (by decide) ?_
  refine zz_iconst (x := 0) C d_MM_keep_2 rfl ?_
  refine zz_istore_n C d_MM_keep_3 (by decide) ?_
  refine zz_lv [0, 1, 2] rfl ?_
  exact loop0 40 0 _ _ nI_0.symm rfl I hT
