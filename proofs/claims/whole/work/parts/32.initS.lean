def x0 (h im : Int32) : zS := z_up (z_up (z_up (z_up (z_up (z_up (z_up xs0 14 0 0 (-1)) 14 0 1 (-1)) 14 0 2 (-1)) 14 0 3 (-1)) 0 0 0 (xf_clampBaseSize h)) 0 1 0 (xf_clampBaseSize im)) 17 0 0 2
def xst : Nat → Nat → zS → zS
  | 0, _, σ => σ
  | k + 1, i, σ => xst k (i + 1) (z_up σ 14 0 i (-1))
def xwn (lo : Nat) : zW := fun q => if q = lo then some (.inr (3, [.null, .null, .null, .null, .null, .int 0, .int 0, .int 0])) else none
theorem xdf_Ar : ∀ j, j < 5 → defaultValue (t_Ar j) = vp_V [.int 0, .int 0, .int 0, .int 0, .int 0] j := by
  intro j hj
  match j, hj with
  | 0, _ => rfl
  | 1, _ => rfl
  | 2, _ => rfl
  | 3, _ => rfl
  | 4, _ => rfl
theorem xdf_Ce : ∀ j, j < 4 → defaultValue (t_Ce j) = vp_V [.null, .int 0, .int 0, .int 0] j := by
  intro j hj
  match j, hj with
  | 0, _ => rfl
  | 1, _ => rfl
  | 2, _ => rfl
  | 3, _ => rfl
theorem xdf_Ro : ∀ j, j < 5 → defaultValue (t_Ro j) = vp_V [.null, .null, .null, .int 0, .int 0] j := by
  intro j hj
  match j, hj with
  | 0, _ => rfl
  | 1, _ => rfl
  | 2, _ => rfl
  | 3, _ => rfl
  | 4, _ => rfl
set_option maxHeartbeats 1000000 in
set_option maxRecDepth 100000 in
theorem c_SM_init {l : Launch} {D : va_G} {dA : Nat → ClassId} {lo : Nat} {h im : Int32} : zM l y_SM_init b_SM_init 4 none (zRm 3 111 632) D dA (xA lo) [.ref (xa0 lo 0), .int h, .int im] (xwn lo) (lo + 1) none (xw dA lo (x0 h im)) (lo + 112) 111 632 := by
  refine zM_of (lv0 := [(0, .ref (xa0 lo 0)), (1, .int h), (2, .int im)]) (by decide) rfl rfl rfl ?_
  intro p e s m below meth c C hr hnm hsz
  have C : zC p s m ([.ref (xa0 lo 0), .int h, .int im] : List Value).toArray meth c b_SM_init 4 R_SM D dA := C
  -- the end: sizes, areaCount
  have fin : ∀ iv : Int32, zz p l e (zRm 3 111 632) s m ([.ref (xa0 lo 0), .int h, .int im] : List Value).toArray below meth c D (xA lo) 4 (MQ below (zQ D (xA lo) none (xw dA lo (x0 h im)) (lo + 112)) ([.ref (xa0 lo 0), .int h, .int im] : List Value).toArray s 111 632 (xA lo)) (xw dA lo (z_up (z_up (z_up (z_up xs0 14 0 0 (-1)) 14 0 1 (-1)) 14 0 2 (-1)) 14 0 3 (-1))) (lo + 112) (111) (632) 145 [(0, .ref (xa0 lo 0)), (1, .int h), (2, .int im), (3, .int iv)] [] := by
    intro iv
    refine zz_aload_n C d_SM_init_145 rfl ?_
    refine zz_get C (ci := 3) (N := 8) 0 rfl zi_SM (by decide) fl_SM_11 (xw_0 Nat.zero_lt_one) rfl d_SM_init_146 ?_
    refine zz_iconst (x := 0) C d_SM_init_149 rfl ?_
    refine zz_aald C (t0 := 2) rfl (xw_1 Nat.zero_lt_one) (by unfold vp_in; decide) (fun h9 => if_pos h9) d_SM_init_150 (fun b150 => ?_)
    refine zz_iload_n C d_SM_init_151 rfl ?_
    refine zz_callSi (b := 0) (host := "") C s_SM_37 c_SM_clampBaseSize rfl rfl d_SM_init_152 k_SM_clampBaseSize (fun _ _ h => h) (fun _ h => h) (fun _ _ h => Or.inl h) ⟨rfl, rfl⟩ ⟨by decide, by decide⟩ ⟨by decide, by decide⟩ (Nat.le_of_ble_eq_true rfl) ?_
    refine xpN_0 C fn_SM_41 b150 rfl rfl d_SM_init_155 ?_
    refine zz_aload_n C d_SM_init_158 rfl ?_
    refine zz_get C (ci := 3) (N := 8) 0 rfl zi_SM (by decide) fl_SM_11 (xw_0 Nat.zero_lt_one) rfl d_SM_init_159 ?_
    refine zz_iconst (x := 1) C d_SM_init_162 rfl ?_
    refine zz_aald C (t0 := 2) rfl (xw_1 Nat.zero_lt_one) (by unfold vp_in; decide) (fun h9 => if_pos h9) d_SM_init_163 (fun b163 => ?_)
    refine zz_iload_n C d_SM_init_164 rfl ?_
    refine zz_callSi (b := 0) (host := "") C s_SM_37 c_SM_clampBaseSize rfl rfl d_SM_init_165 k_SM_clampBaseSize (fun _ _ h => h) (fun _ h => h) (fun _ _ h => Or.inl h) ⟨rfl, rfl⟩ ⟨by decide, by decide⟩ ⟨by decide, by decide⟩ (Nat.le_of_ble_eq_true rfl) ?_
    refine xpN_0 C fn_SM_41 b163 rfl rfl d_SM_init_168 ?_
    refine zz_aload_n C d_SM_init_171 rfl ?_
    refine zz_iconst (x := 2) C d_SM_init_172 rfl ?_
    refine xp_17 C fl_SM_45 Nat.zero_lt_one rfl rfl d_SM_init_173 ?_
    exact zz_vret C hr d_SM_init_176 (Nat.le_refl _) (Nat.le_refl _) rfl (fun _ _ h => h)
  have loop4 : ∀ (k i : Nat) (iv : Int32) (σ : zS), iv = nI i → i + k = 4 → xst k i σ = xst 4 0 xs0 → zz p l e (zRm 3 111 632) s m ([.ref (xa0 lo 0), .int h, .int im] : List Value).toArray below meth c D (xA lo) 4 (MQ below (zQ D (xA lo) none (xw dA lo (x0 h im)) (lo + 112)) ([.ref (xa0 lo 0), .int h, .int im] : List Value).toArray s 111 632 (xA lo)) (xw dA lo σ) (lo + 112) (111) (632) 127 [(0, .ref (xa0 lo 0)), (1, .int h), (2, .int im), (3, .int iv)] [] := by
    intro k
    induction k with
    | zero =>
      intro i iv σ hiv hik hres
      obtain rfl : σ = xst 4 0 xs0 := hres
      refine zz_iload_n C d_SM_init_127 rfl ?_
      refine zz_iconst (x := 4) C d_SM_init_128 rfl ?_
      refine zz_icmp_ge (tgt := 145) C d_SM_init_129 (by decide) (fun h129 => ?_) (fun h129 => ?_)
      · exact fin iv
      · exact absurd (z_ge (N := 4) hiv rfl (by omega) (by omega)) h129
    | succ k ih =>
      intro i iv σ hiv hik hres
      unfold xst at hres
      have hix : iv.toNatClampNeg = i := z_ixI hiv (by omega)
      refine zz_iload_n C d_SM_init_127 rfl ?_
      refine zz_iconst (x := 4) C d_SM_init_128 rfl ?_
      refine zz_icmp_ge (tgt := 145) C d_SM_init_129 (by decide) (fun h129 => ?_) (fun h129 => ?_)
      · exact absurd h129 (z_nge hiv rfl (show i < 4 by omega) (by decide))
      · refine zz_aload_n C d_SM_init_132 rfl ?_
        refine zz_get C (ci := 3) (N := 8) 3 rfl zi_SM (by decide) fl_SM_27 (xw_0 Nat.zero_lt_one) rfl d_SM_init_133 ?_
        refine zz_iload_n C d_SM_init_136 rfl ?_
        refine zz_iconst (x := -1) C d_SM_init_137 rfl ?_
        refine xs_14 C Nat.zero_lt_one (z_vinI hiv (by omega) (by decide)) d_SM_init_138 ?_
        refine zz_iinc (d' := 1) C d_SM_init_139 rfl rfl (by decide) ?_
        refine zz_goto (tgt := 127) C d_SM_init_142 (by decide) ?_
        refine zz_lv [0, 1, 2, 3] rfl ?_
        rw [hix]
        exact ih (i + 1) _ _ (z_sI hiv) (by omega) hres
  have loop3 : ∀ (k i : Nat) (iv : Int32), iv = nI i → i + k = 4 → zz p l e (zRm 3 111 632) s m ([.ref (xa0 lo 0), .int h, .int im] : List Value).toArray below meth c D (xA lo) 4 (MQ below (zQ D (xA lo) none (xw dA lo (x0 h im)) (lo + 112)) ([.ref (xa0 lo 0), .int h, .int im] : List Value).toArray s 111 632 (xA lo)) (xc dA lo (96 + 4 * i) 10 40 i) (lo + (96 + 4 * i)) (95 + 4 * i) (468 + 41 * i) 101 [(0, .ref (xa0 lo 0)), (1, .int h), (2, .int im), (3, .int iv)] [] := by
    intro k
    induction k with
    | zero =>
      intro i iv hiv hik
      obtain rfl : i = 4 := by omega
      refine zz_iload_n C d_SM_init_101 rfl ?_
      refine zz_iconst (x := 4) C d_SM_init_102 rfl ?_
      refine zz_icmp_ge (tgt := 125) C d_SM_init_103 (by decide) (fun h0 => ?_) (fun h0 => ?_)
      · refine zz_iconst (x := 0) C d_SM_init_125 rfl ?_
        refine zz_istore_n C d_SM_init_126 (by decide) ?_
        refine zz_lv [0, 1, 2, 3] rfl ?_
        refine zz_mono xc_end ?_
        exact loop4 4 0 _ _ nI_0.symm rfl rfl
      · exact absurd (z_ge (N := 4) hiv rfl (by omega) (by omega)) h0
    | succ k ih =>
      intro i iv hiv hik
      have hi : i < 4 := by omega
      have hix : iv.toNatClampNeg = i := z_ixI hiv (by omega)
      refine zz_iload_n C d_SM_init_101 rfl ?_
      refine zz_iconst (x := 4) C d_SM_init_102 rfl ?_
      refine zz_icmp_ge (tgt := 125) C d_SM_init_103 (by decide) (fun h0 => ?_) (fun h0 => ?_)
      · exact absurd h0 (z_nge hiv rfl hi (by decide))
      · refine zz_aload_n C d_SM_init_106 rfl ?_
        refine zz_get C (ci := 3) (N := 8) 2 rfl zi_SM (by decide) fl_SM_23 (xc_0 (by omega)) rfl d_SM_init_107 ?_
        refine zz_iload_n C d_SM_init_110 rfl ?_
        refine zz_newB (ci := 2) (N := 5) (fs := [.null, .null, .null, .int 0, .int 0]) C rfl zi_Ro t_Ro t_Ro_ok zc_Ro xdf_Ro (by show _ ≤ 111; omega) (by show _ ≤ 632; omega) d_SM_init_111 ?_
        refine zz_dup C d_SM_init_114 rfl ?_
        refine zz_callINv (A1 := fun q => q = lo + (96 + 4 * i)) (x := 0) (ret := none) C s_SM_36 (c_Ro_init (va_up_self _ _ _) rfl (by omega)) rfl rfl d_SM_init_115 k_Ro_init (fun _ _ h => h) (fun q hq => by rw [hq]; unfold xA; omega) (fun _ _ h => Or.inl h) ⟨rfl, rfl⟩ ⟨by decide, by decide⟩ ⟨by show _ ≤ 111; omega, by show _ ≤ 632; omega⟩ (Nat.le_of_ble_eq_true rfl) ?_
        refine zz_aast C (t0 := 4) (ci := 2) (r := (R_Ro, F_Ro, 5)) rfl ((va_up_ne _ _ (by unfold xa3; omega)).trans ((va_up_ne _ _ (by unfold xa3; omega)).trans ((va_up_ne _ _ (by unfold xa3; omega)).trans ((va_up_ne _ _ (by unfold xa3; omega)).trans ((va_up_ne _ _ (by unfold xa3; omega)).trans (xc_3 (by omega))))))) rfl (va_up_self _ _ _) (by unfold xA xa3; omega) (z_vinI hiv hi (by decide)) d_SM_init_118 ?_
        refine zz_iinc (d' := 1) C d_SM_init_119 rfl rfl (by decide) ?_
        refine zz_goto (tgt := 101) C d_SM_init_122 (by decide) ?_
        refine zz_lv [0, 1, 2, 3] rfl ?_
        rw [hix]
        refine zz_mono (xc_s3 hi) ?_
        exact ih (i + 1) _ (z_sI hiv) (by omega)
  have loop2 : ∀ (k i : Nat) (iv : Int32), iv = nI i → i + k = 40 → zz p l e (zRm 3 111 632) s m ([.ref (xa0 lo 0), .int h, .int im] : List Value).toArray below meth c D (xA lo) 4 (MQ below (zQ D (xA lo) none (xw dA lo (x0 h im)) (lo + 112)) ([.ref (xa0 lo 0), .int h, .int im] : List Value).toArray s 111 632 (xA lo)) (xc dA lo (16 + 2 * i) 10 i 0) (lo + (16 + 2 * i)) (15 + 2 * i) (148 + 8 * i) 74 [(0, .ref (xa0 lo 0)), (1, .int h), (2, .int im), (3, .int iv)] [] := by
    intro k
    induction k with
    | zero =>
      intro i iv hiv hik
      obtain rfl : i = 40 := by omega
      refine zz_iload_n C d_SM_init_74 rfl ?_
      refine zz_bipush (x := 40) C d_SM_init_75 rfl ?_
      refine zz_icmp_ge (tgt := 99) C d_SM_init_77 (by decide) (fun h0 => ?_) (fun h0 => ?_)
      · refine zz_iconst (x := 0) C d_SM_init_99 rfl ?_
        refine zz_istore_n C d_SM_init_100 (by decide) ?_
        refine zz_lv [0, 1, 2, 3] rfl ?_
        exact loop3 4 0 _ nI_0.symm rfl
      · exact absurd (z_ge (N := 40) hiv rfl (by omega) (by omega)) h0
    | succ k ih =>
      intro i iv hiv hik
      have hi : i < 40 := by omega
      have hix : iv.toNatClampNeg = i := z_ixI hiv (by omega)
      refine zz_iload_n C d_SM_init_74 rfl ?_
      refine zz_bipush (x := 40) C d_SM_init_75 rfl ?_
      refine zz_icmp_ge (tgt := 99) C d_SM_init_77 (by decide) (fun h0 => ?_) (fun h0 => ?_)
      · exact absurd h0 (z_nge hiv rfl hi (by decide))
      · refine zz_aload_n C d_SM_init_80 rfl ?_
        refine zz_get C (ci := 3) (N := 8) 1 rfl zi_SM (by decide) fl_SM_17 (xc_0 (by omega)) rfl d_SM_init_81 ?_
        refine zz_iload_n C d_SM_init_84 rfl ?_
        refine zz_newB (ci := 1) (N := 4) (fs := [.null, .int 0, .int 0, .int 0]) C rfl zi_Ce t_Ce t_Ce_ok zc_Ce xdf_Ce (by show _ ≤ 111; omega) (by show _ ≤ 632; omega) d_SM_init_85 ?_
        refine zz_dup C d_SM_init_88 rfl ?_
        refine zz_callINv (A1 := fun q => q = lo + (16 + 2 * i)) (x := 0) (ret := none) C s_SM_35 (c_Ce_init (va_up_self _ _ _) rfl (by omega)) rfl rfl d_SM_init_89 k_Ce_init (fun _ _ h => h) (fun q hq => by rw [hq]; unfold xA; omega) (fun _ _ h => Or.inl h) ⟨rfl, rfl⟩ ⟨by decide, by decide⟩ ⟨by show _ ≤ 111; omega, by show _ ≤ 632; omega⟩ (Nat.le_of_ble_eq_true rfl) ?_
        refine zz_aast C (t0 := 3) (ci := 1) (r := (R_Ce, F_Ce, 4)) rfl ((va_up_ne _ _ (by unfold xa2; omega)).trans ((va_up_ne _ _ (by unfold xa2; omega)).trans ((va_up_ne _ _ (by unfold xa2; omega)).trans (xc_2 (by omega))))) rfl (va_up_self _ _ _) (by unfold xA xa2; omega) (z_vinI hiv hi (by decide)) d_SM_init_92 ?_
        refine zz_iinc (d' := 1) C d_SM_init_93 rfl rfl (by decide) ?_
        refine zz_goto (tgt := 74) C d_SM_init_96 (by decide) ?_
        refine zz_lv [0, 1, 2, 3] rfl ?_
        rw [hix]
        refine zz_mono (xc_s2 hi) ?_
        exact ih (i + 1) _ (z_sI hiv) (by omega)
  have loop1 : ∀ (k i : Nat) (iv : Int32), iv = nI i → i + k = 10 → zz p l e (zRm 3 111 632) s m ([.ref (xa0 lo 0), .int h, .int im] : List Value).toArray below meth c D (xA lo) 4 (MQ below (zQ D (xA lo) none (xw dA lo (x0 h im)) (lo + 112)) ([.ref (xa0 lo 0), .int h, .int im] : List Value).toArray s 111 632 (xA lo)) (xc dA lo (6 + i) i 0 0) (lo + (6 + i)) (5 + 1 * i) (98 + 5 * i) 47 [(0, .ref (xa0 lo 0)), (1, .int h), (2, .int im), (3, .int iv)] [] := by
    intro k
    induction k with
    | zero =>
      intro i iv hiv hik
      obtain rfl : i = 10 := by omega
      refine zz_iload_n C d_SM_init_47 rfl ?_
      refine zz_bipush (x := 10) C d_SM_init_48 rfl ?_
      refine zz_icmp_ge (tgt := 72) C d_SM_init_50 (by decide) (fun h0 => ?_) (fun h0 => ?_)
      · refine zz_iconst (x := 0) C d_SM_init_72 rfl ?_
        refine zz_istore_n C d_SM_init_73 (by decide) ?_
        refine zz_lv [0, 1, 2, 3] rfl ?_
        exact loop2 40 0 _ nI_0.symm rfl
      · exact absurd (z_ge (N := 10) hiv rfl (by omega) (by omega)) h0
    | succ k ih =>
      intro i iv hiv hik
      have hi : i < 10 := by omega
      have hix : iv.toNatClampNeg = i := z_ixI hiv (by omega)
      refine zz_iload_n C d_SM_init_47 rfl ?_
      refine zz_bipush (x := 10) C d_SM_init_48 rfl ?_
      refine zz_icmp_ge (tgt := 72) C d_SM_init_50 (by decide) (fun h0 => ?_) (fun h0 => ?_)
      · exact absurd h0 (z_nge hiv rfl hi (by decide))
      · refine zz_aload_n C d_SM_init_53 rfl ?_
        refine zz_get C (ci := 3) (N := 8) 0 rfl zi_SM (by decide) fl_SM_11 (xc_0 (by omega)) rfl d_SM_init_54 ?_
        refine zz_iload_n C d_SM_init_57 rfl ?_
        refine zz_newB (ci := 0) (N := 5) (fs := [.int 0, .int 0, .int 0, .int 0, .int 0]) C rfl zi_Ar t_Ar t_Ar_ok zc_Ar xdf_Ar (by show _ ≤ 111; omega) (by show _ ≤ 632; omega) d_SM_init_58 ?_
        refine zz_dup C d_SM_init_61 rfl ?_
        refine zz_callINv (A1 := fun q => q = lo + (6 + i)) (x := 0) (ret := none) C s_SM_34 (c_Ar_init (va_up_self _ _ _) rfl) rfl rfl d_SM_init_62 k_Ar_init (fun _ _ h => h) (fun q hq => by rw [hq]; unfold xA; omega) (fun _ _ h => Or.inl h) ⟨rfl, rfl⟩ ⟨by decide, by decide⟩ ⟨by show _ ≤ 111; omega, by show _ ≤ 632; omega⟩ (Nat.le_of_ble_eq_true rfl) ?_
        refine zz_aast C (t0 := 2) (ci := 0) (r := (R_Ar, F_Ar, 5)) rfl ((va_up_ne _ _ (by unfold xa1; omega)).trans ((va_up_ne _ _ (by unfold xa1; omega)).trans (xc_1 (by omega)))) rfl (va_up_self _ _ _) (by unfold xA xa1; omega) (z_vinI hiv hi (by decide)) d_SM_init_65 ?_
        refine zz_iinc (d' := 1) C d_SM_init_66 rfl rfl (by decide) ?_
        refine zz_goto (tgt := 47) C d_SM_init_69 (by decide) ?_
        refine zz_lv [0, 1, 2, 3] rfl ?_
        rw [hix]
        refine zz_mono (xc_s1 hi) ?_
        exact ih (i + 1) _ (z_sI hiv) (by omega)
  refine zz_aload_n C d_SM_init_0 rfl ?_
  refine zz_objInit C zo_SM d_SM_init_1 (by decide) (by decide) ?_
  refine zz_aload_n C d_SM_init_4 rfl ?_
  refine zz_bipush (x := 10) C d_SM_init_5 rfl ?_
  refine zz_newq C (t0 := 2) rfl (zc_Ar).1 (by decide) (by decide) rfl (by decide) (by decide) (by decide) d_SM_init_7 ?_
  refine zz_putF C (ci := 3) (N := 8) 0 rfl zi_SM t_SM t_SM_ok n_SM (by decide) fl_SM_11 rfl hnm rfl rfl rfl rfl (Nat.le_of_ble_eq_true rfl) ((va_up_ne _ _ (by unfold xa0; omega)).trans (if_pos rfl)) (by unfold xA xa0; omega) d_SM_init_10 ?_
  refine zz_aload_n C d_SM_init_13 rfl ?_
  refine zz_bipush (x := 40) C d_SM_init_14 rfl ?_
  refine zz_newq C (t0 := 3) rfl (zc_Ce).1 (by decide) (by decide) rfl (by decide) (by decide) (by decide) d_SM_init_16 ?_
  refine zz_putF C (ci := 3) (N := 8) 1 rfl zi_SM t_SM t_SM_ok n_SM (by decide) fl_SM_17 rfl hnm rfl rfl rfl rfl (Nat.le_of_ble_eq_true rfl) ((va_up_ne _ _ (by unfold xa0; omega)).trans (va_up_self _ _ _)) (by unfold xA xa0; omega) d_SM_init_19 ?_
  refine zz_aload_n C d_SM_init_22 rfl ?_
  refine zz_iconst (x := 4) C d_SM_init_23 rfl ?_
  refine zz_newq C (t0 := 4) rfl (zc_Ro).1 (by decide) (by decide) rfl (by decide) (by decide) (by decide) d_SM_init_24 ?_
  refine zz_putF C (ci := 3) (N := 8) 2 rfl zi_SM t_SM t_SM_ok n_SM (by decide) fl_SM_23 rfl hnm rfl rfl rfl rfl (Nat.le_of_ble_eq_true rfl) ((va_up_ne _ _ (by unfold xa0; omega)).trans (va_up_self _ _ _)) (by unfold xA xa0; omega) d_SM_init_27 ?_
  refine zz_aload_n C d_SM_init_30 rfl ?_
  refine zz_iconst (x := 4) C d_SM_init_31 rfl ?_
  refine zz_newa (atype := .int) (ty := .int) (t0 := 0) (a0 := (4, .inl (fun _ => 0))) C rfl rfl za_int (fun _ _ => rfl) (fun _ => rfl) (by decide) rfl (by decide) (by decide) (by decide) d_SM_init_32 ?_
  refine zz_putF C (ci := 3) (N := 8) 3 rfl zi_SM t_SM t_SM_ok n_SM (by decide) fl_SM_27 rfl hnm rfl rfl rfl rfl (Nat.le_of_ble_eq_true rfl) ((va_up_ne _ _ (by unfold xa0; omega)).trans (va_up_self _ _ _)) (by unfold xA xa0; omega) d_SM_init_34 ?_
  refine zz_aload_n C d_SM_init_37 rfl ?_
  refine zz_bipush (x := 40) C d_SM_init_38 rfl ?_
  refine zz_newa (atype := .int) (ty := .int) (t0 := 0) (a0 := (40, .inl (fun _ => 0))) C rfl rfl za_int (fun _ _ => rfl) (fun _ => rfl) (by decide) rfl (by decide) (by decide) (by decide) d_SM_init_40 ?_
  refine zz_putF C (ci := 3) (N := 8) 4 rfl zi_SM t_SM t_SM_ok n_SM (by decide) fl_SM_31 rfl hnm rfl rfl rfl rfl (Nat.le_of_ble_eq_true rfl) ((va_up_ne _ _ (by unfold xa0; omega)).trans (va_up_self _ _ _)) (by unfold xA xa0; omega) d_SM_init_42 ?_
  refine zz_iconst (x := 0) C d_SM_init_45 rfl ?_
  refine zz_istore_n C d_SM_init_46 (by decide) ?_
  refine zz_lv [0, 1, 2, 3] rfl ?_
  refine zz_mono (w' := xc dA lo 6 0 0 0) (fun q e hq => ?_) (loop1 10 0 _ nI_0.symm rfl)
  have hlo := xc_lo hq
  have hhi := xc_hi hq
  obtain ⟨d, hd, rfl⟩ : ∃ d, d < 6 ∧ q = lo + d := ⟨q - lo, by omega, by omega⟩
  rw [← hq]
  match d, hd with
  | 0, _ =>
    rw [show lo + 0 = xa0 lo 0 from rfl, xc_0 (by decide)]
    simp [va_up, xa0, xa1, xa2, xa3, xa4, xa5]
  | 1, _ =>
    rw [show lo + 1 = xa1 lo 0 from rfl, xc_1 (by decide)]
    simp [va_up, xa0, xa1]
  | 2, _ =>
    rw [show lo + 2 = xa2 lo 0 from rfl, xc_2 (by decide)]
    simp [va_up, xa0, xa2]
  | 3, _ =>
    rw [show lo + 3 = xa3 lo 0 from rfl, xc_3 (by decide)]
    simp [va_up, xa0, xa3]
  | 4, _ =>
    rw [xc_o (by omega) (by omega) (by omega) (by omega), show lo + 4 = xa4 lo 0 from rfl, xw_4 (by decide)]
    simp [va_up, xa0, xa4, xs0]
  | 5, _ =>
    rw [xc_o (by omega) (by omega) (by omega) (by omega), show lo + 5 = xa5 lo 0 from rfl, xw_5 (by decide)]
    simp [va_up, xa0, xa5, xs0]
