def ms0 : zS := fun f _ _ => if f = 0 then 2 else 0
def mfil (f : Nat) : Nat → Nat → zS → zS
  | 0, _, σ => σ
  | k + 1, i, σ => mfil f k (i + 1) (z_up σ f 0 i (-1))
def m0 (h im : Int32) : zS := mfil 15 4 0 (mfil 4 10 0 (mfil 5 40 0 (z_up (z_up ms0 1 0 0 (mf_clamp h)) 1 0 1 (mf_clamp im))))
def mwn (lo : Nat) : zW := fun q => if q = lo then some (.inr (4, [.int 0, .null, .null, .null, .null, .null, .null, .null, .null, .null, .null, .null, .null, .null, .null, .null])) else none
set_option maxHeartbeats 2000000 in
set_option maxRecDepth 100000 in
theorem c_MM_init {l : Launch} {D : va_G} {dA : Nat → ClassId} {lo : Nat} {h im : Int32} {τ : zS} (hT : m0 h im = τ) : zM l y_MM_init b_MM_init 4 none (zRm 2 15 480) D dA (mA lo) [.ref (ma0 lo 0), .int h, .int im] (mwn lo) (lo + 1) none (mw dA lo τ) (lo + 16) 15 480 := by
  refine zM_of (lv0 := [(0, .ref (ma0 lo 0)), (1, .int h), (2, .int im)]) (by decide) rfl rfl rfl ?_
  intro p e s m below meth c C hr hnm hsz
  have C : zC p s m ([.ref (ma0 lo 0), .int h, .int im] : List Value).toArray meth c b_MM_init 4 R_MM D dA := C
  unfold m0 at hT
  have loop3 : ∀ (k i : Nat) (iv : Int32) (σ : zS), iv = nI i → i + k = 4 → mfil 15 k i σ = τ → zz p l e (zRm 2 15 480) s m ([.ref (ma0 lo 0), .int h, .int im] : List Value).toArray below meth c D (mA lo) 4 (MQ below (zQ D (mA lo) none (mw dA lo τ) (lo + 16)) ([.ref (ma0 lo 0), .int h, .int im] : List Value).toArray s 15 480 (mA lo)) (mw dA lo σ) (lo + 16) (15) (480) 192 [(0, .ref (ma0 lo 0)), (1, .int h), (2, .int im), (3, .int iv)] [] := by
    intro k
    induction k with
    | zero =>
      intro i iv σ hiv hik hres
      refine zz_iload_n C d_MM_init_192 rfl ?_
      refine zz_iconst (x := 4) C d_MM_init_193 rfl ?_
      refine zz_icmp_ge (tgt := 210) C d_MM_init_194 (by decide) (fun h0 => ?_) (fun h0 => ?_)
      · exact zz_vret C hr d_MM_init_210 (Nat.le_refl _) (Nat.le_refl _) rfl (by rw [← hres]; exact fun _ _ h => h)
      · exact absurd (z_ge (N := 4) hiv rfl (by omega) (by omega)) h0
    | succ k ih =>
      intro i iv σ hiv hik hres
      have hix : iv.toNatClampNeg = i := z_ixI hiv (by omega)
      refine zz_iload_n C d_MM_init_192 rfl ?_
      refine zz_iconst (x := 4) C d_MM_init_193 rfl ?_
      refine zz_icmp_ge (tgt := 210) C d_MM_init_194 (by decide) (fun h0 => ?_) (fun h0 => ?_)
      · exact absurd h0 (z_nge hiv rfl (show i < 4 by omega) (by decide))
      · refine zz_aload_n C d_MM_init_197 rfl ?_
        refine zz_get C (ci := 4) (N := 16) 15 rfl zi_MM (by decide) fl_MM_57 (mw_0 Nat.zero_lt_one) rfl d_MM_init_198 ?_
        refine zz_iload_n C d_MM_init_201 rfl ?_
        refine zz_iconst (x := -1) C d_MM_init_202 rfl ?_
        refine ms_15 C Nat.zero_lt_one (z_vinI hiv (by omega) (by decide)) d_MM_init_203 ?_
        refine zz_iinc (d' := 1) C d_MM_init_204 rfl rfl (by decide) ?_
        refine zz_goto (tgt := 192) C d_MM_init_207 (by decide) ?_
        refine zz_lv [0, 1, 2, 3] rfl ?_
        rw [hix]
        exact ih (i + 1) _ _ (z_sI hiv) (by omega) hres
  have loop2 : ∀ (k i : Nat) (iv : Int32) (σ : zS), iv = nI i → i + k = 10 → mfil 15 4 0 (mfil 4 k i σ) = τ → zz p l e (zRm 2 15 480) s m ([.ref (ma0 lo 0), .int h, .int im] : List Value).toArray below meth c D (mA lo) 4 (MQ below (zQ D (mA lo) none (mw dA lo τ) (lo + 16)) ([.ref (ma0 lo 0), .int h, .int im] : List Value).toArray s 15 480 (mA lo)) (mw dA lo σ) (lo + 16) (15) (480) 171 [(0, .ref (ma0 lo 0)), (1, .int h), (2, .int im), (3, .int iv)] [] := by
    intro k
    induction k with
    | zero =>
      intro i iv σ hiv hik hres
      refine zz_iload_n C d_MM_init_171 rfl ?_
      refine zz_bipush (x := 10) C d_MM_init_172 rfl ?_
      refine zz_icmp_ge (tgt := 190) C d_MM_init_174 (by decide) (fun h0 => ?_) (fun h0 => ?_)
      · refine zz_iconst (x := 0) C d_MM_init_190 rfl ?_
        refine zz_istore_n C d_MM_init_191 (by decide) ?_
        refine zz_lv [0, 1, 2, 3] rfl ?_
        exact loop3 4 0 _ _ nI_0.symm rfl hres
      · exact absurd (z_ge (N := 10) hiv rfl (by omega) (by omega)) h0
    | succ k ih =>
      intro i iv σ hiv hik hres
      have hix : iv.toNatClampNeg = i := z_ixI hiv (by omega)
      refine zz_iload_n C d_MM_init_171 rfl ?_
      refine zz_bipush (x := 10) C d_MM_init_172 rfl ?_
      refine zz_icmp_ge (tgt := 190) C d_MM_init_174 (by decide) (fun h0 => ?_) (fun h0 => ?_)
      · exact absurd h0 (z_nge hiv rfl (show i < 10 by omega) (by decide))
      · refine zz_aload_n C d_MM_init_177 rfl ?_
        refine zz_get C (ci := 4) (N := 16) 4 rfl zi_MM (by decide) fl_MM_23 (mw_0 Nat.zero_lt_one) rfl d_MM_init_178 ?_
        refine zz_iload_n C d_MM_init_181 rfl ?_
        refine zz_iconst (x := -1) C d_MM_init_182 rfl ?_
        refine ms_4 C Nat.zero_lt_one (z_vinI hiv (by omega) (by decide)) d_MM_init_183 ?_
        refine zz_iinc (d' := 1) C d_MM_init_184 rfl rfl (by decide) ?_
        refine zz_goto (tgt := 171) C d_MM_init_187 (by decide) ?_
        refine zz_lv [0, 1, 2, 3] rfl ?_
        rw [hix]
        exact ih (i + 1) _ _ (z_sI hiv) (by omega) hres
  have loop1 : ∀ (k i : Nat) (iv : Int32) (σ : zS), iv = nI i → i + k = 40 → mfil 15 4 0 (mfil 4 10 0 (mfil 5 k i σ)) = τ → zz p l e (zRm 2 15 480) s m ([.ref (ma0 lo 0), .int h, .int im] : List Value).toArray below meth c D (mA lo) 4 (MQ below (zQ D (mA lo) none (mw dA lo τ) (lo + 16)) ([.ref (ma0 lo 0), .int h, .int im] : List Value).toArray s 15 480 (mA lo)) (mw dA lo σ) (lo + 16) (15) (480) 150 [(0, .ref (ma0 lo 0)), (1, .int h), (2, .int im), (3, .int iv)] [] := by
    intro k
    induction k with
    | zero =>
      intro i iv σ hiv hik hres
      refine zz_iload_n C d_MM_init_150 rfl ?_
      refine zz_bipush (x := 40) C d_MM_init_151 rfl ?_
      refine zz_icmp_ge (tgt := 169) C d_MM_init_153 (by decide) (fun h0 => ?_) (fun h0 => ?_)
      · refine zz_iconst (x := 0) C d_MM_init_169 rfl ?_
        refine zz_istore_n C d_MM_init_170 (by decide) ?_
        refine zz_lv [0, 1, 2, 3] rfl ?_
        exact loop2 10 0 _ _ nI_0.symm rfl hres
      · exact absurd (z_ge (N := 40) hiv rfl (by omega) (by omega)) h0
    | succ k ih =>
      intro i iv σ hiv hik hres
      have hix : iv.toNatClampNeg = i := z_ixI hiv (by omega)
      refine zz_iload_n C d_MM_init_150 rfl ?_
      refine zz_bipush (x := 40) C d_MM_init_151 rfl ?_
      refine zz_icmp_ge (tgt := 169) C d_MM_init_153 (by decide) (fun h0 => ?_) (fun h0 => ?_)
      · exact absurd h0 (z_nge hiv rfl (show i < 40 by omega) (by decide))
      · refine zz_aload_n C d_MM_init_156 rfl ?_
        refine zz_get C (ci := 4) (N := 16) 5 rfl zi_MM (by decide) fl_MM_26 (mw_0 Nat.zero_lt_one) rfl d_MM_init_157 ?_
        refine zz_iload_n C d_MM_init_160 rfl ?_
        refine zz_iconst (x := -1) C d_MM_init_161 rfl ?_
        refine ms_5 C Nat.zero_lt_one (z_vinI hiv (by omega) (by decide)) d_MM_init_162 ?_
        refine zz_iinc (d' := 1) C d_MM_init_163 rfl rfl (by decide) ?_
        refine zz_goto (tgt := 150) C d_MM_init_166 (by decide) ?_
        refine zz_lv [0, 1, 2, 3] rfl ?_
        rw [hix]
        exact ih (i + 1) _ _ (z_sI hiv) (by omega) hres
  have fin : zz p l e (zRm 2 15 480) s m ([.ref (ma0 lo 0), .int h, .int im] : List Value).toArray below meth c D (mA lo) 4 (MQ below (zQ D (mA lo) none (mw dA lo τ) (lo + 16)) ([.ref (ma0 lo 0), .int h, .int im] : List Value).toArray s 15 480 (mA lo)) (mw dA lo ms0) (lo + 16) (15) (480) 126 [(0, .ref (ma0 lo 0)), (1, .int h), (2, .int im)] [] := by
    refine zz_aload_n C d_MM_init_126 rfl ?_
    refine zz_get C (ci := 4) (N := 16) 1 rfl zi_MM (by decide) fl_MM_13 (mw_0 Nat.zero_lt_one) rfl d_MM_init_127 ?_
    refine zz_iconst (x := 0) C d_MM_init_130 rfl ?_
    refine zz_aload_n C d_MM_init_131 rfl ?_
    refine zz_iload_n C d_MM_init_132 rfl ?_
    refine zz_callVi (host := "") C (mw_0 Nat.zero_lt_one) rfl s_MM_60 c_MM_clamp rfl rfl d_MM_init_133 k_MM_clamp (fun _ _ h => h) (fun _ h => h) (fun _ _ h => Or.inl h) ⟨rfl, rfl⟩ ⟨by decide, by decide⟩ ⟨by decide, by decide⟩ (Nat.le_of_ble_eq_true rfl) ?_
    refine ms_1 C Nat.zero_lt_one (by unfold vp_in; decide) d_MM_init_136 ?_
    refine zz_aload_n C d_MM_init_137 rfl ?_
    refine zz_get C (ci := 4) (N := 16) 1 rfl zi_MM (by decide) fl_MM_13 (mw_0 Nat.zero_lt_one) rfl d_MM_init_138 ?_
    refine zz_iconst (x := 1) C d_MM_init_141 rfl ?_
    refine zz_aload_n C d_MM_init_142 rfl ?_
    refine zz_iload_n C d_MM_init_143 rfl ?_
    refine zz_callVi (host := "") C (mw_0 Nat.zero_lt_one) rfl s_MM_60 c_MM_clamp rfl rfl d_MM_init_144 k_MM_clamp (fun _ _ h => h) (fun _ h => h) (fun _ _ h => Or.inl h) ⟨rfl, rfl⟩ ⟨by decide, by decide⟩ ⟨by decide, by decide⟩ (Nat.le_of_ble_eq_true rfl) ?_
    refine ms_1 C Nat.zero_lt_one (by unfold vp_in; decide) d_MM_init_147 ?_
    refine zz_iconst (x := 0) C d_MM_init_148 rfl ?_
    refine zz_istore_n C d_MM_init_149 (by decide) ?_
    refine zz_lv [0, 1, 2, 3] rfl ?_
    exact loop1 40 0 _ _ nI_0.symm rfl hT
  refine zz_aload_n C d_MM_init_0 rfl ?_
  refine zz_objInit C zo_MM d_MM_init_1 (by decide) (by decide) ?_
  refine zz_aload_n C d_MM_init_4 rfl ?_
  refine zz_iconst (x := 2) C d_MM_init_5 rfl ?_
  refine zz_put C (ci := 4) (N := 16) 0 rfl zi_MM t_MM t_MM_ok n_MM (by decide) fl_MM_7 rfl rfl rfl rfl (Nat.le_of_ble_eq_true rfl) (if_pos rfl) (by unfold mA ma0; omega) d_MM_init_6 ?_
  refine zz_aload_n C d_MM_init_9 rfl ?_
  refine zz_bipush (x := 10) C d_MM_init_10 rfl ?_
  refine zz_newa (atype := .int) (ty := .int) (t0 := 0) (a0 := (10, .inl (fun _ => 0))) C rfl rfl za_int (fun _ _ => rfl) (fun _ => rfl) (by decide) rfl (by decide) (by decide) (by decide) d_MM_init_12 ?_
  refine zz_putF C (ci := 4) (N := 16) 1 rfl zi_MM t_MM t_MM_ok n_MM (by decide) fl_MM_13 rfl hnm rfl rfl rfl rfl (Nat.le_of_ble_eq_true rfl) ((va_up_ne _ _ (by unfold ma0; omega)).trans (va_up_self _ _ _)) (by unfold mA ma0; omega) d_MM_init_14 ?_
  refine zz_aload_n C d_MM_init_17 rfl ?_
  refine zz_bipush (x := 10) C d_MM_init_18 rfl ?_
  refine zz_newa (atype := .int) (ty := .int) (t0 := 0) (a0 := (10, .inl (fun _ => 0))) C rfl rfl za_int (fun _ _ => rfl) (fun _ => rfl) (by decide) rfl (by decide) (by decide) (by decide) d_MM_init_20 ?_
  refine zz_putF C (ci := 4) (N := 16) 2 rfl zi_MM t_MM t_MM_ok n_MM (by decide) fl_MM_17 rfl hnm rfl rfl rfl rfl (Nat.le_of_ble_eq_true rfl) ((va_up_ne _ _ (by unfold ma0; omega)).trans (va_up_self _ _ _)) (by unfold mA ma0; omega) d_MM_init_22 ?_
  refine zz_aload_n C d_MM_init_25 rfl ?_
  refine zz_bipush (x := 10) C d_MM_init_26 rfl ?_
  refine zz_newa (atype := .int) (ty := .int) (t0 := 0) (a0 := (10, .inl (fun _ => 0))) C rfl rfl za_int (fun _ _ => rfl) (fun _ => rfl) (by decide) rfl (by decide) (by decide) (by decide) d_MM_init_28 ?_
  refine zz_putF C (ci := 4) (N := 16) 3 rfl zi_MM t_MM t_MM_ok n_MM (by decide) fl_MM_20 rfl hnm rfl rfl rfl rfl (Nat.le_of_ble_eq_true rfl) ((va_up_ne _ _ (by unfold ma0; omega)).trans (va_up_self _ _ _)) (by unfold mA ma0; omega) d_MM_init_30 ?_
  refine zz_aload_n C d_MM_init_33 rfl ?_
  refine zz_bipush (x := 10) C d_MM_init_34 rfl ?_
  refine zz_newa (atype := .int) (ty := .int) (t0 := 0) (a0 := (10, .inl (fun _ => 0))) C rfl rfl za_int (fun _ _ => rfl) (fun _ => rfl) (by decide) rfl (by decide) (by decide) (by decide) d_MM_init_36 ?_
  refine zz_putF C (ci := 4) (N := 16) 4 rfl zi_MM t_MM t_MM_ok n_MM (by decide) fl_MM_23 rfl hnm rfl rfl rfl rfl (Nat.le_of_ble_eq_true rfl) ((va_up_ne _ _ (by unfold ma0; omega)).trans (va_up_self _ _ _)) (by unfold mA ma0; omega) d_MM_init_38 ?_
  refine zz_aload_n C d_MM_init_41 rfl ?_
  refine zz_bipush (x := 40) C d_MM_init_42 rfl ?_
  refine zz_newa (atype := .int) (ty := .int) (t0 := 0) (a0 := (40, .inl (fun _ => 0))) C rfl rfl za_int (fun _ _ => rfl) (fun _ => rfl) (by decide) rfl (by decide) (by decide) (by decide) d_MM_init_44 ?_
  refine zz_putF C (ci := 4) (N := 16) 5 rfl zi_MM t_MM t_MM_ok n_MM (by decide) fl_MM_26 rfl hnm rfl rfl rfl rfl (Nat.le_of_ble_eq_true rfl) ((va_up_ne _ _ (by unfold ma0; omega)).trans (va_up_self _ _ _)) (by unfold mA ma0; omega) d_MM_init_46 ?_
  refine zz_aload_n C d_MM_init_49 rfl ?_
  refine zz_bipush (x := 40) C d_MM_init_50 rfl ?_
  refine zz_newa (atype := .int) (ty := .int) (t0 := 0) (a0 := (40, .inl (fun _ => 0))) C rfl rfl za_int (fun _ _ => rfl) (fun _ => rfl) (by decide) rfl (by decide) (by decide) (by decide) d_MM_init_52 ?_
  refine zz_putF C (ci := 4) (N := 16) 6 rfl zi_MM t_MM t_MM_ok n_MM (by decide) fl_MM_29 rfl hnm rfl rfl rfl rfl (Nat.le_of_ble_eq_true rfl) ((va_up_ne _ _ (by unfold ma0; omega)).trans (va_up_self _ _ _)) (by unfold mA ma0; omega) d_MM_init_54 ?_
  refine zz_aload_n C d_MM_init_57 rfl ?_
  refine zz_sipush (x := 160) C d_MM_init_58 rfl ?_
  refine zz_newa (atype := .int) (ty := .int) (t0 := 0) (a0 := (160, .inl (fun _ => 0))) C rfl rfl za_int (fun _ _ => rfl) (fun _ => rfl) (by decide) rfl (by decide) (by decide) (by decide) d_MM_init_61 ?_
  refine zz_putF C (ci := 4) (N := 16) 7 rfl zi_MM t_MM t_MM_ok n_MM (by decide) fl_MM_32 rfl hnm rfl rfl rfl rfl (Nat.le_of_ble_eq_true rfl) ((va_up_ne _ _ (by unfold ma0; omega)).trans (va_up_self _ _ _)) (by unfold mA ma0; omega) d_MM_init_63 ?_
  refine zz_aload_n C d_MM_init_66 rfl ?_
  refine zz_bipush (x := 40) C d_MM_init_67 rfl ?_
  refine zz_newa (atype := .boolean) (ty := .boolean) (t0 := 1) (a0 := (40, .inl (fun _ => 0))) C rfl rfl za_bool (fun _ _ => rfl) (fun _ => rfl) (by decide) rfl (by decide) (by decide) (by decide) d_MM_init_69 ?_
  refine zz_putF C (ci := 4) (N := 16) 8 rfl zi_MM t_MM t_MM_ok n_MM (by decide) fl_MM_35 rfl hnm rfl rfl rfl rfl (Nat.le_of_ble_eq_true rfl) ((va_up_ne _ _ (by unfold ma0; omega)).trans (va_up_self _ _ _)) (by unfold mA ma0; omega) d_MM_init_71 ?_
  refine zz_aload_n C d_MM_init_74 rfl ?_
  refine zz_iconst (x := 4) C d_MM_init_75 rfl ?_
  refine zz_newa (atype := .boolean) (ty := .boolean) (t0 := 1) (a0 := (4, .inl (fun _ => 0))) C rfl rfl za_bool (fun _ _ => rfl) (fun _ => rfl) (by decide) rfl (by decide) (by decide) (by decide) d_MM_init_76 ?_
  refine zz_putF C (ci := 4) (N := 16) 9 rfl zi_MM t_MM t_MM_ok n_MM (by decide) fl_MM_39 rfl hnm rfl rfl rfl rfl (Nat.le_of_ble_eq_true rfl) ((va_up_ne _ _ (by unfold ma0; omega)).trans (va_up_self _ _ _)) (by unfold mA ma0; omega) d_MM_init_78 ?_
  refine zz_aload_n C d_MM_init_81 rfl ?_
  refine zz_iconst (x := 4) C d_MM_init_82 rfl ?_
  refine zz_newa (atype := .boolean) (ty := .boolean) (t0 := 1) (a0 := (4, .inl (fun _ => 0))) C rfl rfl za_bool (fun _ _ => rfl) (fun _ => rfl) (by decide) rfl (by decide) (by decide) (by decide) d_MM_init_83 ?_
  refine zz_putF C (ci := 4) (N := 16) 10 rfl zi_MM t_MM t_MM_ok n_MM (by decide) fl_MM_42 rfl hnm rfl rfl rfl rfl (Nat.le_of_ble_eq_true rfl) ((va_up_ne _ _ (by unfold ma0; omega)).trans (va_up_self _ _ _)) (by unfold mA ma0; omega) d_MM_init_85 ?_
  refine zz_aload_n C d_MM_init_88 rfl ?_
  refine zz_iconst (x := 4) C d_MM_init_89 rfl ?_
  refine zz_newa (atype := .int) (ty := .int) (t0 := 0) (a0 := (4, .inl (fun _ => 0))) C rfl rfl za_int (fun _ _ => rfl) (fun _ => rfl) (by decide) rfl (by decide) (by decide) (by decide) d_MM_init_90 ?_
  refine zz_putF C (ci := 4) (N := 16) 11 rfl zi_MM t_MM t_MM_ok n_MM (by decide) fl_MM_45 rfl hnm rfl rfl rfl rfl (Nat.le_of_ble_eq_true rfl) ((va_up_ne _ _ (by unfold ma0; omega)).trans (va_up_self _ _ _)) (by unfold mA ma0; omega) d_MM_init_92 ?_
  refine zz_aload_n C d_MM_init_95 rfl ?_
  refine zz_bipush (x := 48) C d_MM_init_96 rfl ?_
  refine zz_newa (atype := .int) (ty := .int) (t0 := 0) (a0 := (48, .inl (fun _ => 0))) C rfl rfl za_int (fun _ _ => rfl) (fun _ => rfl) (by decide) rfl (by decide) (by decide) (by decide) d_MM_init_98 ?_
  refine zz_putF C (ci := 4) (N := 16) 12 rfl zi_MM t_MM t_MM_ok n_MM (by decide) fl_MM_48 rfl hnm rfl rfl rfl rfl (Nat.le_of_ble_eq_true rfl) ((va_up_ne _ _ (by unfold ma0; omega)).trans (va_up_self _ _ _)) (by unfold mA ma0; omega) d_MM_init_100 ?_
  refine zz_aload_n C d_MM_init_103 rfl ?_
  refine zz_bipush (x := 48) C d_MM_init_104 rfl ?_
  refine zz_newa (atype := .int) (ty := .int) (t0 := 0) (a0 := (48, .inl (fun _ => 0))) C rfl rfl za_int (fun _ _ => rfl) (fun _ => rfl) (by decide) rfl (by decide) (by decide) (by decide) d_MM_init_106 ?_
  refine zz_putF C (ci := 4) (N := 16) 13 rfl zi_MM t_MM t_MM_ok n_MM (by decide) fl_MM_51 rfl hnm rfl rfl rfl rfl (Nat.le_of_ble_eq_true rfl) ((va_up_ne _ _ (by unfold ma0; omega)).trans (va_up_self _ _ _)) (by unfold mA ma0; omega) d_MM_init_108 ?_
  refine zz_aload_n C d_MM_init_111 rfl ?_
  refine zz_bipush (x := 48) C d_MM_init_112 rfl ?_
  refine zz_newa (atype := .boolean) (ty := .boolean) (t0 := 1) (a0 := (48, .inl (fun _ => 0))) C rfl rfl za_bool (fun _ _ => rfl) (fun _ => rfl) (by decide) rfl (by decide) (by decide) (by decide) d_MM_init_114 ?_
  refine zz_putF C (ci := 4) (N := 16) 14 rfl zi_MM t_MM t_MM_ok n_MM (by decide) fl_MM_54 rfl hnm rfl rfl rfl rfl (Nat.le_of_ble_eq_true rfl) ((va_up_ne _ _ (by unfold ma0; omega)).trans (va_up_self _ _ _)) (by unfold mA ma0; omega) d_MM_init_116 ?_
  refine zz_aload_n C d_MM_init_119 rfl ?_
  refine zz_iconst (x := 4) C d_MM_init_120 rfl ?_
  refine zz_newa (atype := .int) (ty := .int) (t0 := 0) (a0 := (4, .inl (fun _ => 0))) C rfl rfl za_int (fun _ _ => rfl) (fun _ => rfl) (by decide) rfl (by decide) (by decide) (by decide) d_MM_init_121 ?_
  refine zz_putF C (ci := 4) (N := 16) 15 rfl zi_MM t_MM t_MM_ok n_MM (by decide) fl_MM_57 rfl hnm rfl rfl rfl rfl (Nat.le_of_ble_eq_true rfl) ((va_up_ne _ _ (by unfold ma0; omega)).trans (va_up_self _ _ _)) (by unfold mA ma0; omega) d_MM_init_123 ?_
  refine zz_mono (w' := mw dA lo ms0) (fun q e hq => ?_) fin
  have hlo := (mw_in hq).1
  have hhi := (mw_in hq).2
  obtain ⟨d, hd, rfl⟩ : ∃ d, d < 16 ∧ q = lo + d := ⟨q - lo, by omega, by omega⟩
  rw [← hq]
  match d, hd with
  | 0, _ =>
    rw [show lo + 0 = ma0 lo 0 from rfl, mw_0 (by decide)]
    simp [va_up, ms0, ma0, ma1, ma2, ma3, ma4, ma5, ma6, ma7, ma8, ma9, ma10, ma11, ma12, ma13, ma14, ma15]
  | 1, _ =>
    rw [show lo + 1 = ma1 lo 0 from rfl, mw_1 (by decide)]
    simp [va_up, ms0, ma0, ma1]
  | 2, _ =>
    rw [show lo + 2 = ma2 lo 0 from rfl, mw_2 (by decide)]
    simp [va_up, ms0, ma0, ma2]
  | 3, _ =>
    rw [show lo + 3 = ma3 lo 0 from rfl, mw_3 (by decide)]
    simp [va_up, ms0, ma0, ma3]
  | 4, _ =>
    rw [show lo + 4 = ma4 lo 0 from rfl, mw_4 (by decide)]
    simp [va_up, ms0, ma0, ma4]
  | 5, _ =>
    rw [show lo + 5 = ma5 lo 0 from rfl, mw_5 (by decide)]
    simp [va_up, ms0, ma0, ma5]
  | 6, _ =>
    rw [show lo + 6 = ma6 lo 0 from rfl, mw_6 (by decide)]
    simp [va_up, ms0, ma0, ma6]
  | 7, _ =>
    rw [show lo + 7 = ma7 lo 0 from rfl, mw_7 (by decide)]
    simp [va_up, ms0, ma0, ma7]
  | 8, _ =>
    rw [show lo + 8 = ma8 lo 0 from rfl, mw_8 (by decide)]
    simp [va_up, ms0, ma0, ma8]
  | 9, _ =>
    rw [show lo + 9 = ma9 lo 0 from rfl, mw_9 (by decide)]
    simp [va_up, ms0, ma0, ma9]
  | 10, _ =>
    rw [show lo + 10 = ma10 lo 0 from rfl, mw_10 (by decide)]
    simp [va_up, ms0, ma0, ma10]
  | 11, _ =>
    rw [show lo + 11 = ma11 lo 0 from rfl, mw_11 (by decide)]
    simp [va_up, ms0, ma0, ma11]
  | 12, _ =>
    rw [show lo + 12 = ma12 lo 0 from rfl, mw_12 (by decide)]
    simp [va_up, ms0, ma0, ma12]
  | 13, _ =>
    rw [show lo + 13 = ma13 lo 0 from rfl, mw_13 (by decide)]
    simp [va_up, ms0, ma0, ma13]
  | 14, _ =>
    rw [show lo + 14 = ma14 lo 0 from rfl, mw_14 (by decide)]
    simp [va_up, ms0, ma0, ma14]
  | 15, _ =>
    rw [show lo + 15 = ma15 lo 0 from rfl, mw_15 (by decide)]
    simp [va_up, ms0, ma0, ma15]
  | d + 16, h9 => exact absurd h9 (by omega)
