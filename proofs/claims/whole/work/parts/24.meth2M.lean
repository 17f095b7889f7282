theorem m_em_at {z : Int32} {f i' j' : Nat} (h5 : f ≠ 5) : ∀ (k i : Nat) (σ : zS), mf_em z k i σ f i' j' = σ f i' j' := by
  intro k
  induction k with
  | zero => intro i σ; rfl
  | succ k ih =>
    intro i σ
    unfold mf_em
    rw [ih]
    split
    · simp [z_at, h5]
    · rfl
theorem m_empty_11 {σ : zS} {z : Int32} {i j : Nat} : mf_empty σ z 11 i j = σ 11 i j := by
  unfold mf_empty
  simp only [z_at]
  simp
  exact m_em_at (by decide) 40 0 σ
set_option maxHeartbeats 400000 in
set_option maxRecDepth 100000 in
theorem c_MM_leave {l : Launch} {D : va_G} {dA : Nat → ClassId} {lo n : Nat} {σ : zS} {t : Int32} (I : mI σ) : mM l y_MM_leave b_MM_leave 3 (some .int) 1 D dA lo n [.ref (ma0 lo 0), .int t] σ (some (.int ((mf_leave σ t).1))) ((mf_leave σ t).2) := by
  refine zM_of (lv0 := [(0, .ref (ma0 lo 0)), (1, .int t)]) (by decide) rfl rfl rfl ?_
  intro p e s m below meth c C hr hnm hsz
  have C : zC p s m ([.ref (ma0 lo 0), .int t] : List Value).toArray meth c b_MM_leave 3 R_MM D dA := C
  refine zz_aload_n C d_MM_leave_0 rfl ?_
  refine zz_iload_n C d_MM_leave_1 rfl ?_
  refine mc_Vi C (mw_0 Nat.zero_lt_one) rfl s_MM_72 c_MM_idle rfl rfl d_MM_leave_2 k_MM_idle ⟨by decide, by decide⟩ rfl ?_
  refine zz_if_eq (tgt := 10) C d_MM_leave_5 (by decide) (fun h5 => ?_) (fun h5 => ?_)
  · refine zz_aload_n C d_MM_leave_10 rfl ?_
    refine zz_get C (ci := 4) (N := 16) 11 rfl zi_MM (by decide) fl_MM_45 (mw_0 Nat.zero_lt_one) rfl d_MM_leave_11 ?_
    refine zz_iload_n C d_MM_leave_14 rfl ?_
    refine zz_dup2 C d_MM_leave_15 rfl rfl ?_
    refine zz_iald C (t0 := 0) rfl (mw_11 Nat.zero_lt_one) (m_idle_thr h5) d_MM_leave_16 ?_
    refine zz_iconst (x := 1) C d_MM_leave_17 rfl ?_
    refine zz_isub C d_MM_leave_18 ?_
    refine ms_11 C Nat.zero_lt_one (m_idle_thr h5) d_MM_leave_19 ?_
    refine zz_iload_n C d_MM_leave_20 rfl ?_
    refine zz_bipush (x := 12) C d_MM_leave_21 rfl ?_
    refine zz_imul C d_MM_leave_23 ?_
    refine zz_aload_n C d_MM_leave_24 rfl ?_
    refine zz_get C (ci := 4) (N := 16) 11 rfl zi_MM (by decide) fl_MM_45 (mw_0 Nat.zero_lt_one) rfl d_MM_leave_25 ?_
    refine zz_iload_n C d_MM_leave_28 rfl ?_
    refine zz_iald C (t0 := 0) rfl (mw_11 Nat.zero_lt_one) (m_idle_thr h5) d_MM_leave_29 ?_
    refine zz_iadd C d_MM_leave_30 ?_
    refine zz_istore_n C d_MM_leave_31 (by decide) ?_
    refine zz_aload_n C d_MM_leave_32 rfl ?_
    refine zz_get C (ci := 4) (N := 16) 11 rfl zi_MM (by decide) fl_MM_45 (mw_0 Nat.zero_lt_one) rfl d_MM_leave_33 ?_
    refine zz_iload_n C d_MM_leave_36 rfl ?_
    refine zz_iald C (t0 := 0) rfl (mw_11 Nat.zero_lt_one) (m_idle_thr h5) d_MM_leave_37 ?_
    rw [z_at, if_pos ⟨rfl, rfl, rfl⟩]
    refine zz_if_ne (tgt := 48) C d_MM_leave_38 (by decide) (fun h38 => ?_) (fun h38 => ?_)
    · refine zz_aload_n C d_MM_leave_48 rfl ?_
      refine zz_get C (ci := 4) (N := 16) 14 rfl zi_MM (by decide) fl_MM_54 (mw_0 Nat.zero_lt_one) rfl d_MM_leave_49 ?_
      refine zz_iload_n C d_MM_leave_52 rfl ?_
      refine zz_zald C (t0 := 1) rfl (mw_14 Nat.zero_lt_one) (m_ix (m_idle_thr h5) (m_top_in I (z_vlt (m_idle_thr h5)) (m_idle_len I h5))) d_MM_leave_53 ?_
      refine zz_if_eq (tgt := 96) C d_MM_leave_54 (by decide) (fun h54 => ?_) (fun h54 => ?_)
      · refine zz_aload_n C d_MM_leave_96 rfl ?_
        refine zz_get C (ci := 4) (N := 16) 11 rfl zi_MM (by decide) fl_MM_45 (mw_0 Nat.zero_lt_one) rfl d_MM_leave_97 ?_
        refine zz_iload_n C d_MM_leave_100 rfl ?_
        refine zz_iald C (t0 := 0) rfl (mw_11 Nat.zero_lt_one) (m_idle_thr h5) d_MM_leave_101 ?_
        have h54 : σ 14 0 (z_ix (mf_lvK σ t)) = 0 := h54
        exact mr_i C hr rfl d_MM_leave_102 (by simp only [mf_leave, if_pos h5, if_neg h38, if_pos h54] <;> simp [z_at, m_empty_11]) (by simp only [mf_leave, if_pos h5, if_neg h38, if_pos h54] <;> simp [mf_lvA, mf_lvB, mf_lvZ, mf_lvK, z_at, h38])
      · refine zz_aload_n C d_MM_leave_57 rfl ?_
        refine zz_get C (ci := 4) (N := 16) 2 rfl zi_MM (by decide) fl_MM_17 (mw_0 Nat.zero_lt_one) rfl d_MM_leave_58 ?_
        refine zz_aload_n C d_MM_leave_61 rfl ?_
        refine zz_get C (ci := 4) (N := 16) 12 rfl zi_MM (by decide) fl_MM_48 (mw_0 Nat.zero_lt_one) rfl d_MM_leave_62 ?_
        refine zz_iload_n C d_MM_leave_65 rfl ?_
        refine zz_iald C (t0 := 0) rfl (mw_12 Nat.zero_lt_one) (m_ix (m_idle_thr h5) (m_top_in I (z_vlt (m_idle_thr h5)) (m_idle_len I h5))) d_MM_leave_66 ?_
        refine zz_dup2 C d_MM_leave_67 rfl rfl ?_
        refine zz_iald C (t0 := 0) rfl (mw_2 Nat.zero_lt_one) (I.2.2.2.2.2.2.1 _ (z_vlt (m_ix (m_idle_thr h5) (m_top_in I (z_vlt (m_idle_thr h5)) (m_idle_len I h5))))) d_MM_leave_68 ?_
        refine zz_iconst (x := 1) C d_MM_leave_69 rfl ?_
        refine zz_isub C d_MM_leave_70 ?_
        refine ms_2 C Nat.zero_lt_one (I.2.2.2.2.2.2.1 _ (z_vlt (m_ix (m_idle_thr h5) (m_top_in I (z_vlt (m_idle_thr h5)) (m_idle_len I h5))))) d_MM_leave_71 ?_
        refine zz_aload_n C d_MM_leave_72 rfl ?_
        refine zz_get C (ci := 4) (N := 16) 2 rfl zi_MM (by decide) fl_MM_17 (mw_0 Nat.zero_lt_one) rfl d_MM_leave_73 ?_
        refine zz_aload_n C d_MM_leave_76 rfl ?_
        refine zz_get C (ci := 4) (N := 16) 12 rfl zi_MM (by decide) fl_MM_48 (mw_0 Nat.zero_lt_one) rfl d_MM_leave_77 ?_
        refine zz_iload_n C d_MM_leave_80 rfl ?_
        refine zz_iald C (t0 := 0) rfl (mw_12 Nat.zero_lt_one) (m_ix (m_idle_thr h5) (m_top_in I (z_vlt (m_idle_thr h5)) (m_idle_len I h5))) d_MM_leave_81 ?_
        refine zz_iald C (t0 := 0) rfl (mw_2 Nat.zero_lt_one) (I.2.2.2.2.2.2.1 _ (z_vlt (m_ix (m_idle_thr h5) (m_top_in I (z_vlt (m_idle_thr h5)) (m_idle_len I h5))))) d_MM_leave_82 ?_
        refine zz_if_ne (tgt := 96) C d_MM_leave_83 (by decide) (fun h83 => ?_) (fun h83 => ?_)
        · refine zz_aload_n C d_MM_leave_96 rfl ?_
          refine zz_get C (ci := 4) (N := 16) 11 rfl zi_MM (by decide) fl_MM_45 (mw_0 Nat.zero_lt_one) rfl d_MM_leave_97 ?_
          refine zz_iload_n C d_MM_leave_100 rfl ?_
          refine zz_iald C (t0 := 0) rfl (mw_11 Nat.zero_lt_one) (m_idle_thr h5) d_MM_leave_101 ?_
          have h54 : ¬ σ 14 0 (z_ix (mf_lvK σ t)) = 0 := h54
          rw [z_at, if_pos ⟨rfl, rfl, rfl⟩] at h83
          have h83 : ¬ σ 2 0 (z_ix (mf_lvZ σ t)) - 1 = 0 := h83
          exact mr_i C hr rfl d_MM_leave_102 (by simp only [mf_leave, if_pos h5, if_neg h38, if_neg h54, if_neg h83] <;> simp [z_at, m_empty_11]) (by simp only [mf_leave, if_pos h5, if_neg h38, if_neg h54, if_neg h83] <;> simp [mf_lvA, mf_lvB, mf_lvZ, mf_lvK, z_at, h38])
        · refine zz_aload_n C d_MM_leave_86 rfl ?_
          refine zz_aload_n C d_MM_leave_87 rfl ?_
          refine zz_get C (ci := 4) (N := 16) 12 rfl zi_MM (by decide) fl_MM_48 (mw_0 Nat.zero_lt_one) rfl d_MM_leave_88 ?_
          refine zz_iload_n C d_MM_leave_91 rfl ?_
          refine zz_iald C (t0 := 0) rfl (mw_12 Nat.zero_lt_one) (m_ix (m_idle_thr h5) (m_top_in I (z_vlt (m_idle_thr h5)) (m_idle_len I h5))) d_MM_leave_92 ?_
          refine mc_Vv C (mw_0 Nat.zero_lt_one) rfl s_MM_88 (c_MM_empty (I.2.2.2.2.2.2.1 _ (z_vlt (m_ix (m_idle_thr h5) (m_top_in I (z_vlt (m_idle_thr h5)) (m_idle_len I h5)))))) rfl rfl d_MM_leave_93 k_MM_empty ⟨by decide, by decide⟩ rfl ?_
          refine zz_aload_n C d_MM_leave_96 rfl ?_
          refine zz_get C (ci := 4) (N := 16) 11 rfl zi_MM (by decide) fl_MM_45 (mw_0 Nat.zero_lt_one) rfl d_MM_leave_97 ?_
          refine zz_iload_n C d_MM_leave_100 rfl ?_
          refine zz_iald C (t0 := 0) rfl (mw_11 Nat.zero_lt_one) (m_idle_thr h5) d_MM_leave_101 ?_
          have h54 : ¬ σ 14 0 (z_ix (mf_lvK σ t)) = 0 := h54
          rw [z_at, if_pos ⟨rfl, rfl, rfl⟩] at h83
          have h83 : σ 2 0 (z_ix (mf_lvZ σ t)) - 1 = 0 := h83
          exact mr_i C hr rfl d_MM_leave_102 (by simp only [mf_leave, if_pos h5, if_neg h38, if_neg h54, if_pos h83] <;> simp [z_at, m_empty_11]) (by simp only [mf_leave, if_pos h5, if_neg h38, if_neg h54, if_pos h83] <;> simp [mf_lvA, mf_lvB, mf_lvZ, mf_lvK, z_at, h38])
    · refine zz_aload_n C d_MM_leave_41 rfl ?_
      refine zz_get C (ci := 4) (N := 16) 9 rfl zi_MM (by decide) fl_MM_39 (mw_0 Nat.zero_lt_one) rfl d_MM_leave_42 ?_
      refine zz_iload_n C d_MM_leave_45 rfl ?_
      refine zz_iconst (x := 0) C d_MM_leave_46 rfl ?_
      refine ms_9 C Nat.zero_lt_one (m_idle_thr h5) d_MM_leave_47 ?_
      refine zz_aload_n C d_MM_leave_48 rfl ?_
      refine zz_get C (ci := 4) (N := 16) 14 rfl zi_MM (by decide) fl_MM_54 (mw_0 Nat.zero_lt_one) rfl d_MM_leave_49 ?_
      refine zz_iload_n C d_MM_leave_52 rfl ?_
      refine zz_zald C (t0 := 1) rfl (mw_14 Nat.zero_lt_one) (m_ix (m_idle_thr h5) (m_top_in I (z_vlt (m_idle_thr h5)) (m_idle_len I h5))) d_MM_leave_53 ?_
      refine zz_if_eq (tgt := 96) C d_MM_leave_54 (by decide) (fun h54 => ?_) (fun h54 => ?_)
      · refine zz_aload_n C d_MM_leave_96 rfl ?_
        refine zz_get C (ci := 4) (N := 16) 11 rfl zi_MM (by decide) fl_MM_45 (mw_0 Nat.zero_lt_one) rfl d_MM_leave_97 ?_
        refine zz_iload_n C d_MM_leave_100 rfl ?_
        refine zz_iald C (t0 := 0) rfl (mw_11 Nat.zero_lt_one) (m_idle_thr h5) d_MM_leave_101 ?_
        have h54 : σ 14 0 (z_ix (mf_lvK σ t)) = 0 := h54
        exact mr_i C hr rfl d_MM_leave_102 (by simp only [mf_leave, if_pos h5, if_pos h38, if_pos h54] <;> simp [z_at, m_empty_11]) (by simp only [mf_leave, if_pos h5, if_pos h38, if_pos h54] <;> simp [mf_lvA, mf_lvB, mf_lvZ, mf_lvK, z_at, h38])
      · refine zz_aload_n C d_MM_leave_57 rfl ?_
        refine zz_get C (ci := 4) (N := 16) 2 rfl zi_MM (by decide) fl_MM_17 (mw_0 Nat.zero_lt_one) rfl d_MM_leave_58 ?_
        refine zz_aload_n C d_MM_leave_61 rfl ?_
        refine zz_get C (ci := 4) (N := 16) 12 rfl zi_MM (by decide) fl_MM_48 (mw_0 Nat.zero_lt_one) rfl d_MM_leave_62 ?_
        refine zz_iload_n C d_MM_leave_65 rfl ?_
        refine zz_iald C (t0 := 0) rfl (mw_12 Nat.zero_lt_one) (m_ix (m_idle_thr h5) (m_top_in I (z_vlt (m_idle_thr h5)) (m_idle_len I h5))) d_MM_leave_66 ?_
        refine zz_dup2 C d_MM_leave_67 rfl rfl ?_
        refine zz_iald C (t0 := 0) rfl (mw_2 Nat.zero_lt_one) (I.2.2.2.2.2.2.1 _ (z_vlt (m_ix (m_idle_thr h5) (m_top_in I (z_vlt (m_idle_thr h5)) (m_idle_len I h5))))) d_MM_leave_68 ?_
        refine zz_iconst (x := 1) C d_MM_leave_69 rfl ?_
        refine zz_isub C d_MM_leave_70 ?_
        refine ms_2 C Nat.zero_lt_one (I.2.2.2.2.2.2.1 _ (z_vlt (m_ix (m_idle_thr h5) (m_top_in I (z_vlt (m_idle_thr h5)) (m_idle_len I h5))))) d_MM_leave_71 ?_
        refine zz_aload_n C d_MM_leave_72 rfl ?_
        refine zz_get C (ci := 4) (N := 16) 2 rfl zi_MM (by decide) fl_MM_17 (mw_0 Nat.zero_lt_one) rfl d_MM_leave_73 ?_
        refine zz_aload_n C d_MM_leave_76 rfl ?_
        refine zz_get C (ci := 4) (N := 16) 12 rfl zi_MM (by decide) fl_MM_48 (mw_0 Nat.zero_lt_one) rfl d_MM_leave_77 ?_
        refine zz_iload_n C d_MM_leave_80 rfl ?_
        refine zz_iald C (t0 := 0) rfl (mw_12 Nat.zero_lt_one) (m_ix (m_idle_thr h5) (m_top_in I (z_vlt (m_idle_thr h5)) (m_idle_len I h5))) d_MM_leave_81 ?_
        refine zz_iald C (t0 := 0) rfl (mw_2 Nat.zero_lt_one) (I.2.2.2.2.2.2.1 _ (z_vlt (m_ix (m_idle_thr h5) (m_top_in I (z_vlt (m_idle_thr h5)) (m_idle_len I h5))))) d_MM_leave_82 ?_
        refine zz_if_ne (tgt := 96) C d_MM_leave_83 (by decide) (fun h83 => ?_) (fun h83 => ?_)
        · refine zz_aload_n C d_MM_leave_96 rfl ?_
          refine zz_get C (ci := 4) (N := 16) 11 rfl zi_MM (by decide) fl_MM_45 (mw_0 Nat.zero_lt_one) rfl d_MM_leave_97 ?_
          refine zz_iload_n C d_MM_leave_100 rfl ?_
          refine zz_iald C (t0 := 0) rfl (mw_11 Nat.zero_lt_one) (m_idle_thr h5) d_MM_leave_101 ?_
          have h54 : ¬ σ 14 0 (z_ix (mf_lvK σ t)) = 0 := h54
          rw [z_at, if_pos ⟨rfl, rfl, rfl⟩] at h83
          have h83 : ¬ σ 2 0 (z_ix (mf_lvZ σ t)) - 1 = 0 := h83
          exact mr_i C hr rfl d_MM_leave_102 (by simp only [mf_leave, if_pos h5, if_pos h38, if_neg h54, if_neg h83] <;> simp [z_at, m_empty_11]) (by simp only [mf_leave, if_pos h5, if_pos h38, if_neg h54, if_neg h83] <;> simp [mf_lvA, mf_lvB, mf_lvZ, mf_lvK, z_at, h38])
        · refine zz_aload_n C d_MM_leave_86 rfl ?_
          refine zz_aload_n C d_MM_leave_87 rfl ?_
          refine zz_get C (ci := 4) (N := 16) 12 rfl zi_MM (by decide) fl_MM_48 (mw_0 Nat.zero_lt_one) rfl d_MM_leave_88 ?_
          refine zz_iload_n C d_MM_leave_91 rfl ?_
          refine zz_iald C (t0 := 0) rfl (mw_12 Nat.zero_lt_one) (m_ix (m_idle_thr h5) (m_top_in I (z_vlt (m_idle_thr h5)) (m_idle_len I h5))) d_MM_leave_92 ?_
          refine mc_Vv C (mw_0 Nat.zero_lt_one) rfl s_MM_88 (c_MM_empty (I.2.2.2.2.2.2.1 _ (z_vlt (m_ix (m_idle_thr h5) (m_top_in I (z_vlt (m_idle_thr h5)) (m_idle_len I h5)))))) rfl rfl d_MM_leave_93 k_MM_empty ⟨by decide, by decide⟩ rfl ?_
          refine zz_aload_n C d_MM_leave_96 rfl ?_
          refine zz_get C (ci := 4) (N := 16) 11 rfl zi_MM (by decide) fl_MM_45 (mw_0 Nat.zero_lt_one) rfl d_MM_leave_97 ?_
          refine zz_iload_n C d_MM_leave_100 rfl ?_
          refine zz_iald C (t0 := 0) rfl (mw_11 Nat.zero_lt_one) (m_idle_thr h5) d_MM_leave_101 ?_
          have h54 : ¬ σ 14 0 (z_ix (mf_lvK σ t)) = 0 := h54
          rw [z_at, if_pos ⟨rfl, rfl, rfl⟩] at h83
          have h83 : σ 2 0 (z_ix (mf_lvZ σ t)) - 1 = 0 := h83
          exact mr_i C hr rfl d_MM_leave_102 (by simp only [mf_leave, if_pos h5, if_pos h38, if_neg h54, if_pos h83] <;> simp [z_at, m_empty_11]) (by simp only [mf_leave, if_pos h5, if_pos h38, if_neg h54, if_pos h83] <;> simp [mf_lvA, mf_lvB, mf_lvZ, mf_lvK, z_at, h38])
  · refine zz_iconst (x := -1) C d_MM_leave_8 rfl ?_
    exact mr_i C hr rfl d_MM_leave_9 (by simp only [mf_leave, mf_lvK, mf_lvA, mf_lvZ, mf_lvB, m_empty_11, if_neg h5] <;> simp [mf_leave, mf_lvK, mf_lvA, mf_lvZ, mf_lvB, m_empty_11, z_at]) (by simp only [mf_leave, mf_lvK, mf_lvA, mf_lvZ, mf_lvB, m_empty_11, if_neg h5] <;> simp [mf_leave, mf_lvK, mf_lvA, mf_lvZ, mf_lvB, m_empty_11, z_at])
