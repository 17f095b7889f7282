theorem m_w4 {w : Int32} (h : ¬ w ≤ 3) (h2 : ¬ 8 ≤ w) : vp_in (w - 4) 4 := by
  have h0 : ¬ w < 0 := by
    rw [Int32.le_iff_toInt_le] at h
    rw [Int32.lt_iff_toInt_lt, Int32.toInt_zero]
    have e1 : (3 : Int32).toInt = 3 := rfl
    omega
  obtain ⟨j, hj, rfl⟩ := nI_of h0
  have h3 : ¬ j ≤ 3 := fun q => h (nI_le q (by decide))
  have h4 : ¬ 8 ≤ j := fun q => h2 (nI_le q hj)
  rw [show (4 : Int32) = nI 4 from rfl, pk_sub (by omega)]
  exact vp_in_nI (by omega) (by decide)
set_option maxHeartbeats 400000 in
set_option maxRecDepth 100000 in
theorem c_MM_collect {l : Launch} {D : va_G} {dA : Nat → ClassId} {lo n : Nat} {σ : zS} {r : Int32} {κ τ : zS} (I : mI σ) (hT : mf_l3 41 (1, mf_l0 40 0 σ) = κ) (hR : mf_cl 40 0 (0, κ) = (r, τ)) : mM l y_MM_collect b_MM_collect 3 (some .int) 2 D dA lo n [.ref (ma0 lo 0)] σ (some (.int (r))) τ := by
  refine zM_of (lv0 := [(0, .ref (ma0 lo 0))]) (by decide) rfl rfl rfl ?_
  intro p e s m below meth c C hr hnm hsz
  have C : zC p s m ([.ref (ma0 lo 0)] : List Value).toArray meth c b_MM_collect 3 R_MM D dA := C
  have loop : ∀ (k i : Nat) (q iv : Int32) (σ1 : zS), iv = nI i → i + k = 40 → mf_cl k i (q, σ1) = (r, τ) → mZ p l e 2 s m ([.ref (ma0 lo 0)] : List Value).toArray below meth c D dA lo 3 n (some (.int (r))) (τ) (σ1) 9 [(0, .ref (ma0 lo 0)), (1, .int q), (2, .int iv)] [] := by
    intro k
    induction k with
    | zero =>
      intro i q iv σ1 hiv hik hres
      have hres : (q, σ1) = (r, τ) := hres
      simp only [Prod.mk.injEq] at hres
      refine zz_iload_n C d_MM_collect_9 rfl ?_
      refine zz_bipush (x := 40) C d_MM_collect_10 rfl ?_
      refine zz_icmp_ge (tgt := 52) C d_MM_collect_12 (by decide) (fun h12 => ?_) (fun h12 => ?_)
      · refine zz_iload_n C d_MM_collect_52 rfl ?_
        exact mr_i C hr rfl d_MM_collect_53 hres.1 hres.2
      · exact absurd (z_ge (N := 40) hiv rfl (by omega) (by omega)) h12
    | succ k ih =>
      intro i q iv σ1 hiv hik hres
      unfold mf_cl at hres
      dsimp only at hres
      have hix : iv.toNatClampNeg = i := z_ixI hiv (by omega)
      refine zz_iload_n C d_MM_collect_9 rfl ?_
      refine zz_bipush (x := 40) C d_MM_collect_10 rfl ?_
      refine zz_icmp_ge (tgt := 52) C d_MM_collect_12 (by decide) (fun h12 => ?_) (fun h12 => ?_)
      · exact absurd h12 (z_nge hiv rfl (show i < 40 by omega) (by decide))
      · refine zz_aload_n C d_MM_collect_15 rfl ?_
        refine zz_get C (ci := 4) (N := 16) 5 rfl zi_MM (by decide) fl_MM_26 (mw_0 Nat.zero_lt_one) rfl d_MM_collect_16 ?_
        refine zz_iload_n C d_MM_collect_19 rfl ?_
        refine zz_iald C (t0 := 0) rfl (mw_5 Nat.zero_lt_one) (z_vinI hiv (by omega) (by decide)) d_MM_collect_20 ?_
        refine zz_if_ne (tgt := 46) C d_MM_collect_21 (by decide) (fun h21 => ?_) (fun h21 => ?_)
        · refine zz_iinc (d' := 1) C d_MM_collect_46 rfl rfl (by decide) ?_
          refine zz_goto (tgt := 9) C d_MM_collect_49 (by decide) ?_
          refine zz_lv [0, 1, 2] rfl ?_
          rw [hix] at h21
          rw [if_neg h21] at hres
          exact ih (i + 1) _ _ _ (z_sI hiv) (by omega) hres
        · refine zz_aload_n C d_MM_collect_24 rfl ?_
          refine zz_get C (ci := 4) (N := 16) 8 rfl zi_MM (by decide) fl_MM_35 (mw_0 Nat.zero_lt_one) rfl d_MM_collect_25 ?_
          refine zz_iload_n C d_MM_collect_28 rfl ?_
          refine zz_zald C (t0 := 1) rfl (mw_8 Nat.zero_lt_one) (z_vinI hiv (by omega) (by decide)) d_MM_collect_29 ?_
          refine zz_if_eq (tgt := 36) C d_MM_collect_30 (by decide) (fun h30 => ?_) (fun h30 => ?_)
          · refine zz_aload_n C d_MM_collect_36 rfl ?_
            refine zz_get C (ci := 4) (N := 16) 5 rfl zi_MM (by decide) fl_MM_26 (mw_0 Nat.zero_lt_one) rfl d_MM_collect_37 ?_
            refine zz_iload_n C d_MM_collect_40 rfl ?_
            refine zz_iconst (x := -1) C d_MM_collect_41 rfl ?_
            refine ms_5 C Nat.zero_lt_one (z_vinI hiv (by omega) (by decide)) d_MM_collect_42 ?_
            refine zz_iinc (d' := 1) C d_MM_collect_43 rfl rfl (by decide) ?_
            refine zz_iinc (d' := 1) C d_MM_collect_46 rfl rfl (by decide) ?_
            refine zz_goto (tgt := 9) C d_MM_collect_49 (by decide) ?_
            refine zz_lv [0, 1, 2] rfl ?_
            rw [hix] at h21 h30
            rw [if_pos h21, if_pos h30] at hres
            rw [hix]
            exact ih (i + 1) _ _ _ (z_sI hiv) (by omega) hres
          · refine zz_goto (tgt := 46) C d_MM_collect_33 (by decide) ?_
            refine zz_iinc (d' := 1) C d_MM_collect_46 rfl rfl (by decide) ?_
            refine zz_goto (tgt := 9) C d_MM_collect_49 (by decide) ?_
            refine zz_lv [0, 1, 2] rfl ?_
            rw [hix] at h21 h30
            rw [if_pos h21, if_neg h30] at hres
            exact ih (i + 1) _ _ _ (z_sI hiv) (by omega) hres
  refine zz_iconst (x := 0) C d_MM_collect_0 rfl ?_
  refine zz_istore_n C d_MM_collect_1 (by decide) ?_
  refine zz_aload_n C d_MM_collect_2 rfl ?_
  refine mc_Vi C (mw_0 Nat.zero_lt_one) rfl s_MM_114 (c_MM_keep I hT rfl) rfl rfl d_MM_collect_3 k_MM_keep ⟨by decide, by decide⟩ rfl ?_
  refine zz_pop C d_MM_collect_6 rfl ?_
  refine zz_iconst (x := 0) C d_MM_collect_7 rfl ?_
  refine zz_istore_n C d_MM_collect_8 (by decide) ?_
  refine zz_lv [0, 1, 2] rfl ?_
  exact loop 40 0 _ _ _ nI_0.symm rfl hR
set_option maxHeartbeats 400000 in
set_option maxRecDepth 100000 in
theorem c_MM_count {l : Launch} {D : va_G} {dA : Nat → ClassId} {lo n : Nat} {σ : zS} {w : Int32} {r : Int32} {τ : zS} (I : mI σ) (hR : mf_count σ w = (r, τ)) : mM l y_MM_count b_MM_count 4 (some .int) 2 D dA lo n [.ref (ma0 lo 0), .int w] σ (some (.int (r))) τ := by
  refine zM_of (lv0 := [(0, .ref (ma0 lo 0)), (1, .int w)]) (by decide) rfl rfl rfl ?_
  intro p e s m below meth c C hr hnm hsz
  have C : zC p s m ([.ref (ma0 lo 0), .int w] : List Value).toArray meth c b_MM_count 4 R_MM D dA := C
  by_cases g0 : w = 0
  · subst g0
    simp only [mf_count, if_true, Prod.mk.injEq] at hR
    obtain ⟨hR1, hR2⟩ := hR
    have loop : ∀ (k i : Nat) (q iv : Int32), iv = nI i → i + k = 40 → mf_no σ k i q = r → mZ p l e 2 s m ([.ref (ma0 lo 0), .int 0] : List Value).toArray below meth c D dA lo 4 n (some (.int (r))) (τ) (σ) 8 [(0, .ref (ma0 lo 0)), (1, .int 0), (2, .int q), (3, .int iv)] [] := by
      intro k
      induction k with
      | zero =>
        intro i q iv hiv hik hres
        refine zz_iload_n C d_MM_count_8 rfl ?_
        refine zz_bipush (x := 40) C d_MM_count_9 rfl ?_
        refine zz_icmp_ge (tgt := 32) C d_MM_count_11 (by decide) (fun h11 => ?_) (fun h11 => ?_)
        · refine zz_iload_n C d_MM_count_32 rfl ?_
          refine zz_iconst (x := 2) C d_MM_count_33 rfl ?_
          refine zz_icmp_ne (tgt := 62) C d_MM_count_34 (by decide) (fun h34 => ?_) (fun h34 => ?_)
          · refine zz_iload_n C d_MM_count_62 rfl ?_
            refine zz_if_eq (tgt := 71) C d_MM_count_63 (by decide) (fun h63 => ?_) (fun h63 => ?_)
            · refine zz_iload_n C d_MM_count_71 rfl ?_
              exact mr_i C hr rfl d_MM_count_72 hres hR2
            · exact absurd rfl h63
          · exact absurd h34 (by decide)
        · exact absurd (z_ge (N := 40) hiv rfl (by omega) (by omega)) h11
      | succ k ih =>
        intro i q iv hiv hik hres
        unfold mf_no at hres
        have hix : iv.toNatClampNeg = i := z_ixI hiv (by omega)
        refine zz_iload_n C d_MM_count_8 rfl ?_
        refine zz_bipush (x := 40) C d_MM_count_9 rfl ?_
        refine zz_icmp_ge (tgt := 32) C d_MM_count_11 (by decide) (fun h11 => ?_) (fun h11 => ?_)
        · exact absurd h11 (z_nge hiv rfl (show i < 40 by omega) (by decide))
        · refine zz_aload_n C d_MM_count_14 rfl ?_
          refine zz_get C (ci := 4) (N := 16) 5 rfl zi_MM (by decide) fl_MM_26 (mw_0 Nat.zero_lt_one) rfl d_MM_count_15 ?_
          refine zz_iload_n C d_MM_count_18 rfl ?_
          refine zz_iald C (t0 := 0) rfl (mw_5 Nat.zero_lt_one) (z_vinI hiv (by omega) (by decide)) d_MM_count_19 ?_
          refine zz_if_lt (tgt := 26) C d_MM_count_20 (by decide) (fun h20 => ?_) (fun h20 => ?_)
          · refine zz_iinc (d' := 1) C d_MM_count_26 rfl rfl (by decide) ?_
            refine zz_goto (tgt := 8) C d_MM_count_29 (by decide) ?_
            refine zz_lv [0, 1, 2, 3] rfl ?_
            rw [hix] at h20
            exact ih (i + 1) _ _ (z_sI hiv) (by omega) (by rw [← hres, if_pos h20])
          · refine zz_iinc (d' := 1) C d_MM_count_23 rfl rfl (by decide) ?_
            refine zz_iinc (d' := 1) C d_MM_count_26 rfl rfl (by decide) ?_
            refine zz_goto (tgt := 8) C d_MM_count_29 (by decide) ?_
            refine zz_lv [0, 1, 2, 3] rfl ?_
            rw [hix] at h20
            exact ih (i + 1) _ _ (z_sI hiv) (by omega) (by rw [← hres, if_neg h20])
    refine zz_iconst (x := 0) C d_MM_count_0 rfl ?_
    refine zz_istore_n C d_MM_count_1 (by decide) ?_
    refine zz_iload_n C d_MM_count_2 rfl ?_
    refine zz_if_ne (tgt := 32) C d_MM_count_3 (by decide) (fun h3 => ?_) (fun h3 => ?_)
    · exact absurd rfl h3
    · refine zz_iconst (x := 0) C d_MM_count_6 rfl ?_
      refine zz_istore_n C d_MM_count_7 (by decide) ?_
      refine zz_lv [0, 1, 2, 3] rfl ?_
      exact loop 40 0 _ _ nI_0.symm rfl hR1
  by_cases g2 : w = 2
  · subst g2
    simp only [mf_count, if_neg g0, if_true, Prod.mk.injEq] at hR
    obtain ⟨hR1, hR2⟩ := hR
    have loop : ∀ (k i : Nat) (q iv : Int32), iv = nI i → i + k = 4 → mf_nb σ k i q = r → mZ p l e 2 s m ([.ref (ma0 lo 0), .int 2] : List Value).toArray below meth c D dA lo 4 n (some (.int (r))) (τ) (σ) 39 [(0, .ref (ma0 lo 0)), (1, .int 2), (2, .int q), (3, .int iv)] [] := by
      intro k
      induction k with
      | zero =>
        intro i q iv hiv hik hres
        refine zz_iload_n C d_MM_count_39 rfl ?_
        refine zz_iconst (x := 4) C d_MM_count_40 rfl ?_
        refine zz_icmp_ge (tgt := 62) C d_MM_count_41 (by decide) (fun h41 => ?_) (fun h41 => ?_)
        · refine zz_iload_n C d_MM_count_62 rfl ?_
          refine zz_if_eq (tgt := 71) C d_MM_count_63 (by decide) (fun h63 => ?_) (fun h63 => ?_)
          · exact absurd h63 g0
          · refine zz_iload_n C d_MM_count_66 rfl ?_
            refine zz_iconst (x := 2) C d_MM_count_67 rfl ?_
            refine zz_icmp_ne (tgt := 73) C d_MM_count_68 (by decide) (fun h68 => ?_) (fun h68 => ?_)
            · exact absurd rfl h68
            · refine zz_iload_n C d_MM_count_71 rfl ?_
              exact mr_i C hr rfl d_MM_count_72 hres hR2
        · exact absurd (z_ge (N := 4) hiv rfl (by omega) (by omega)) h41
      | succ k ih =>
        intro i q iv hiv hik hres
        unfold mf_nb at hres
        have hix : iv.toNatClampNeg = i := z_ixI hiv (by omega)
        refine zz_iload_n C d_MM_count_39 rfl ?_
        refine zz_iconst (x := 4) C d_MM_count_40 rfl ?_
        refine zz_icmp_ge (tgt := 62) C d_MM_count_41 (by decide) (fun h41 => ?_) (fun h41 => ?_)
        · exact absurd h41 (z_nge hiv rfl (show i < 4 by omega) (by decide))
        · refine zz_aload_n C d_MM_count_44 rfl ?_
          refine zz_get C (ci := 4) (N := 16) 9 rfl zi_MM (by decide) fl_MM_39 (mw_0 Nat.zero_lt_one) rfl d_MM_count_45 ?_
          refine zz_iload_n C d_MM_count_48 rfl ?_
          refine zz_zald C (t0 := 1) rfl (mw_9 Nat.zero_lt_one) (z_vinI hiv (by omega) (by decide)) d_MM_count_49 ?_
          refine zz_if_eq (tgt := 56) C d_MM_count_50 (by decide) (fun h50 => ?_) (fun h50 => ?_)
          · refine zz_iinc (d' := 1) C d_MM_count_56 rfl rfl (by decide) ?_
            refine zz_goto (tgt := 39) C d_MM_count_59 (by decide) ?_
            refine zz_lv [0, 1, 2, 3] rfl ?_
            rw [hix] at h50
            exact ih (i + 1) _ _ (z_sI hiv) (by omega) (by rw [← hres, if_pos h50])
          · refine zz_iinc (d' := 1) C d_MM_count_53 rfl rfl (by decide) ?_
            refine zz_iinc (d' := 1) C d_MM_count_56 rfl rfl (by decide) ?_
            refine zz_goto (tgt := 39) C d_MM_count_59 (by decide) ?_
            refine zz_lv [0, 1, 2, 3] rfl ?_
            rw [hix] at h50
            exact ih (i + 1) _ _ (z_sI hiv) (by omega) (by rw [← hres, if_neg h50])
    refine zz_iconst (x := 0) C d_MM_count_0 rfl ?_
    refine zz_istore_n C d_MM_count_1 (by decide) ?_
    refine zz_iload_n C d_MM_count_2 rfl ?_
    refine zz_if_ne (tgt := 32) C d_MM_count_3 (by decide) (fun h3 => ?_) (fun h3 => ?_)
    · refine zz_iload_n C d_MM_count_32 rfl ?_
      refine zz_iconst (x := 2) C d_MM_count_33 rfl ?_
      refine zz_icmp_ne (tgt := 62) C d_MM_count_34 (by decide) (fun h34 => ?_) (fun h34 => ?_)
      · exact absurd rfl h34
      · refine zz_iconst (x := 0) C d_MM_count_37 rfl ?_
        refine zz_istore_n C d_MM_count_38 (by decide) ?_
        refine zz_lv [0, 1, 2, 3] rfl ?_
        exact loop 4 0 _ _ nI_0.symm rfl hR1
    · exact absurd h3 g0
  refine zz_iconst (x := 0) C d_MM_count_0 rfl ?_
  refine zz_istore_n C d_MM_count_1 (by decide) ?_
  refine zz_iload_n C d_MM_count_2 rfl ?_
  refine zz_if_ne (tgt := 32) C d_MM_count_3 (by decide) (fun h3 => ?_) (fun h3 => ?_)
  · refine zz_iload_n C d_MM_count_32 rfl ?_
    refine zz_iconst (x := 2) C d_MM_count_33 rfl ?_
    refine zz_icmp_ne (tgt := 62) C d_MM_count_34 (by decide) (fun h34 => ?_) (fun h34 => ?_)
    · refine zz_iload_n C d_MM_count_62 rfl ?_
      refine zz_if_eq (tgt := 71) C d_MM_count_63 (by decide) (fun h63 => ?_) (fun h63 => ?_)
      · exact absurd h63 g0
      · refine zz_iload_n C d_MM_count_66 rfl ?_
        refine zz_iconst (x := 2) C d_MM_count_67 rfl ?_
        refine zz_icmp_ne (tgt := 73) C d_MM_count_68 (by decide) (fun h68 => ?_) (fun h68 => ?_)
        · refine zz_iload_n C d_MM_count_73 rfl ?_
          refine zz_iconst (x := 1) C d_MM_count_74 rfl ?_
          refine zz_icmp_ne (tgt := 83) C d_MM_count_75 (by decide) (fun h75 => ?_) (fun h75 => ?_)
          · refine zz_iload_n C d_MM_count_83 rfl ?_
            refine zz_iconst (x := 3) C d_MM_count_84 rfl ?_
            refine zz_icmp_ne (tgt := 93) C d_MM_count_85 (by decide) (fun h85 => ?_) (fun h85 => ?_)
            · refine zz_iload_n C d_MM_count_93 rfl ?_
              refine zz_iconst (x := 3) C d_MM_count_94 rfl ?_
              refine zz_icmp_le (tgt := 131) C d_MM_count_95 (by decide) (fun h95 => ?_) (fun h95 => ?_)
              · refine zz_iconst (x := -1) C d_MM_count_131 rfl ?_
                simp only [mf_count, if_neg g0, if_neg g2, if_neg h75, if_neg h85, if_pos h95, Prod.mk.injEq] at hR
                exact mr_i C hr rfl d_MM_count_132 hR.1 hR.2
              · refine zz_iload_n C d_MM_count_98 rfl ?_
                refine zz_bipush (x := 8) C d_MM_count_99 rfl ?_
                refine zz_icmp_ge (tgt := 131) C d_MM_count_101 (by decide) (fun h101 => ?_) (fun h101 => ?_)
                · refine zz_iconst (x := -1) C d_MM_count_131 rfl ?_
                  simp only [mf_count, if_neg g0, if_neg g2, if_neg h75, if_neg h85, if_neg h95, if_pos h101, Prod.mk.injEq] at hR
                  exact mr_i C hr rfl d_MM_count_132 hR.1 hR.2
                · refine zz_aload_n C d_MM_count_104 rfl ?_
                  refine zz_get C (ci := 4) (N := 16) 15 rfl zi_MM (by decide) fl_MM_57 (mw_0 Nat.zero_lt_one) rfl d_MM_count_105 ?_
                  refine zz_iload_n C d_MM_count_108 rfl ?_
                  refine zz_iconst (x := 4) C d_MM_count_109 rfl ?_
                  refine zz_isub C d_MM_count_110 ?_
                  refine zz_iald C (t0 := 0) rfl (mw_15 Nat.zero_lt_one) (m_w4 h95 h101) d_MM_count_111 ?_
                  refine zz_if_ge (tgt := 120) C d_MM_count_112 (by decide) (fun h112 => ?_) (fun h112 => ?_)
                  · refine zz_aload_n C d_MM_count_120 rfl ?_
                    refine zz_get C (ci := 4) (N := 16) 15 rfl zi_MM (by decide) fl_MM_57 (mw_0 Nat.zero_lt_one) rfl d_MM_count_121 ?_
                    refine zz_iload_n C d_MM_count_124 rfl ?_
                    refine zz_iconst (x := 4) C d_MM_count_125 rfl ?_
                    refine zz_isub C d_MM_count_126 ?_
                    refine zz_iald C (t0 := 0) rfl (mw_15 Nat.zero_lt_one) (m_w4 h95 h101) d_MM_count_127 ?_
                    refine zz_goto (tgt := 132) C d_MM_count_128 (by decide) ?_
                    simp only [mf_count, if_neg g0, if_neg g2, if_neg h75, if_neg h85, if_neg h95, if_neg h101, if_pos h112, Prod.mk.injEq] at hR
                    exact mr_i C hr rfl d_MM_count_132 hR.1 hR.2
                  · refine zz_bipush (x := -6) C d_MM_count_115 rfl ?_
                    refine zz_goto (tgt := 132) C d_MM_count_117 (by decide) ?_
                    simp only [mf_count, if_neg g0, if_neg g2, if_neg h75, if_neg h85, if_neg h95, if_neg h101, if_neg h112, Prod.mk.injEq] at hR
                    exact mr_i C hr rfl d_MM_count_132 hR.1 hR.2
            · simp only [mf_count, if_neg g0, if_neg g2, if_neg h75, if_pos h85, mf_keep, mf_keepS, Prod.mk.injEq] at hR
              obtain ⟨hR1, hR2⟩ := hR
              rw [hR2] at hR1
              refine zz_aload_n C d_MM_count_88 rfl ?_
              refine mc_Vi C (mw_0 Nat.zero_lt_one) rfl s_MM_114 (c_MM_keep I hR2 hR1) rfl rfl d_MM_count_89 k_MM_keep ⟨by decide, by decide⟩ rfl ?_
              exact mr_i C hr rfl d_MM_count_92 rfl rfl
          · refine zz_aload_n C d_MM_count_78 rfl ?_
            refine zz_get C (ci := 4) (N := 16) 0 rfl zi_MM (by decide) fl_MM_7 (mw_0 Nat.zero_lt_one) rfl d_MM_count_79 ?_
            simp only [mf_count, if_neg g0, if_neg g2, if_pos h75, Prod.mk.injEq] at hR
            exact mr_i C hr rfl d_MM_count_82 hR.1 hR.2
        · exact absurd h68 g2
    · exact absurd h34 g2
  · exact absurd h3 g0
