set_option maxHeartbeats 400000 in
set_option maxRecDepth 100000 in
theorem c_Ro_top {l : Launch} {D : va_G} {dA : Nat → ClassId} {lo n : Nat} {σ : zS} {t : Nat} (ht : t < 4) : xM l y_Ro_top b_Ro_top 1 (some .int) 0 D dA lo n [.ref (xa9 lo t)] σ (some (.int (xf_top σ t))) σ := by
  refine zM_of (lv0 := [(0, .ref (xa9 lo t))]) (by decide) rfl rfl rfl ?_
  intro p e s m below meth c C hr hnm hsz
  have C : zC p s m ([.ref (xa9 lo t)] : List Value).toArray meth c b_Ro_top 1 R_Ro D dA := C
  refine zz_aload_n C d_Ro_top_0 rfl ?_
  refine zz_get C (ci := 2) (N := 5) 3 rfl zi_Ro (by decide) fl_Ro_22 (xw_9 ht) rfl d_Ro_top_1 ?_
  refine zz_iconst (x := 1) C d_Ro_top_4 rfl ?_
  refine zz_isub C d_Ro_top_5 ?_
  exact xr_i C hr rfl d_Ro_top_6 (by first | rfl | simp [xf_top, z_at]) rfl
set_option maxHeartbeats 400000 in
set_option maxRecDepth 100000 in
theorem c_Ro_isFull {l : Launch} {D : va_G} {dA : Nat → ClassId} {lo n : Nat} {σ : zS} {t : Nat} (ht : t < 4) : xM l y_Ro_isFull b_Ro_isFull 1 (some .boolean) 0 D dA lo n [.ref (xa9 lo t)] σ (some (.int (xf_isFull σ t))) σ := by
  refine zM_of (lv0 := [(0, .ref (xa9 lo t))]) (by decide) rfl rfl rfl ?_
  intro p e s m below meth c C hr hnm hsz
  have C : zC p s m ([.ref (xa9 lo t)] : List Value).toArray meth c b_Ro_isFull 1 R_Ro D dA := C
  refine zz_aload_n C d_Ro_isFull_0 rfl ?_
  refine zz_get C (ci := 2) (N := 5) 3 rfl zi_Ro (by decide) fl_Ro_22 (xw_9 ht) rfl d_Ro_isFull_1 ?_
  refine zz_bipush (x := 12) C d_Ro_isFull_4 rfl ?_
  refine zz_icmp_lt (tgt := 13) C d_Ro_isFull_6 (by decide) (fun h6 => ?_) (fun h6 => ?_)
  · refine zz_iconst (x := 0) C d_Ro_isFull_13 rfl ?_
    exact xr_i C hr rfl d_Ro_isFull_14 (by simp only [xf_isFull, if_pos h6] <;> simp [xf_isFull, z_at]) rfl
  · refine zz_iconst (x := 1) C d_Ro_isFull_9 rfl ?_
    refine zz_goto (tgt := 14) C d_Ro_isFull_10 (by decide) ?_
    exact xr_i C hr rfl d_Ro_isFull_14 (by simp only [xf_isFull, if_neg h6] <;> simp [xf_isFull, z_at]) rfl
set_option maxHeartbeats 400000 in
set_option maxRecDepth 100000 in
theorem c_Ro_currentArea {l : Launch} {D : va_G} {dA : Nat → ClassId} {lo n : Nat} {σ : zS} {t : Nat} (ht : t < 4) (hL : vp_in (xf_top σ t) 12) : xM l y_Ro_currentArea b_Ro_currentArea 1 (some .int) 1 D dA lo n [.ref (xa9 lo t)] σ (some (.int (xf_currentArea σ t))) σ := by
  refine zM_of (lv0 := [(0, .ref (xa9 lo t))]) (by decide) rfl rfl rfl ?_
  intro p e s m below meth c C hr hnm hsz
  have C : zC p s m ([.ref (xa9 lo t)] : List Value).toArray meth c b_Ro_currentArea 1 R_Ro D dA := C
  refine zz_aload_n C d_Ro_currentArea_0 rfl ?_
  refine zz_get C (ci := 2) (N := 5) 0 rfl zi_Ro (by decide) fl_Ro_9 (xw_9 ht) rfl d_Ro_currentArea_1 ?_
  refine zz_aload_n C d_Ro_currentArea_4 rfl ?_
  refine xc_Vi C (xw_9 ht) rfl s_Ro_26 (c_Ro_top ht) rfl rfl d_Ro_currentArea_5 k_Ro_top ⟨by decide, by decide⟩ rfl ?_
  refine zz_iald C (t0 := 0) rfl (xw_10 ht) hL d_Ro_currentArea_8 ?_
  exact xr_i C hr rfl d_Ro_currentArea_9 (by first | rfl | simp [xf_currentArea, z_at]) rfl
set_option maxHeartbeats 400000 in
set_option maxRecDepth 100000 in
theorem c_Ro_topWasEntered {l : Launch} {D : va_G} {dA : Nat → ClassId} {lo n : Nat} {σ : zS} {t : Nat} (ht : t < 4) (I : xI σ) (hL : vp_in (xf_top σ t) 12) : xM l y_Ro_topWasEntered b_Ro_topWasEntered 1 (some .boolean) 1 D dA lo n [.ref (xa9 lo t)] σ (some (.int (xf_topWasEntered σ t))) σ := by
  refine zM_of (lv0 := [(0, .ref (xa9 lo t))]) (by decide) rfl rfl rfl ?_
  intro p e s m below meth c C hr hnm hsz
  have C : zC p s m ([.ref (xa9 lo t)] : List Value).toArray meth c b_Ro_topWasEntered 1 R_Ro D dA := C
  refine zz_aload_n C d_Ro_topWasEntered_0 rfl ?_
  refine zz_get C (ci := 2) (N := 5) 2 rfl zi_Ro (by decide) fl_Ro_18 (xw_9 ht) rfl d_Ro_topWasEntered_1 ?_
  refine zz_aload_n C d_Ro_topWasEntered_4 rfl ?_
  refine xc_Vi C (xw_9 ht) rfl s_Ro_26 (c_Ro_top ht) rfl rfl d_Ro_topWasEntered_5 k_Ro_top ⟨by decide, by decide⟩ rfl ?_
  refine zz_zald C (t0 := 1) rfl (xw_12 ht) hL d_Ro_topWasEntered_8 ?_
  exact xr_i C hr (I.2.2.2.2.2.2.2.2.2 t ht _ (z_vlt hL)) d_Ro_topWasEntered_9 (by first | rfl | simp [xf_topWasEntered, z_at]) rfl
set_option maxHeartbeats 400000 in
set_option maxRecDepth 100000 in
theorem c_Ro_push {l : Launch} {D : va_G} {dA : Nat → ClassId} {lo n : Nat} {σ : zS} {t : Nat} {a u b : Int32} (ht : t < 4) (hL : vp_in (σ 12 t 0) 12) : xM l y_Ro_push b_Ro_push 4 none 0 D dA lo n [.ref (xa9 lo t), .int a, .int u, .int b] σ none (xf_push σ t a u b) := by
  refine zM_of (lv0 := [(0, .ref (xa9 lo t)), (1, .int a), (2, .int u), (3, .int b)]) (by decide) rfl rfl rfl ?_
  intro p e s m below meth c C hr hnm hsz
  have C : zC p s m ([.ref (xa9 lo t), .int a, .int u, .int b] : List Value).toArray meth c b_Ro_push 4 R_Ro D dA := C
  refine zz_aload_n C d_Ro_push_0 rfl ?_
  refine zz_get C (ci := 2) (N := 5) 0 rfl zi_Ro (by decide) fl_Ro_9 (xw_9 ht) rfl d_Ro_push_1 ?_
  refine zz_aload_n C d_Ro_push_4 rfl ?_
  refine zz_get C (ci := 2) (N := 5) 3 rfl zi_Ro (by decide) fl_Ro_22 (xw_9 ht) rfl d_Ro_push_5 ?_
  refine zz_iload_n C d_Ro_push_8 rfl ?_
  refine xs_9 C ht hL d_Ro_push_9 ?_
  refine zz_aload_n C d_Ro_push_10 rfl ?_
  refine zz_get C (ci := 2) (N := 5) 1 rfl zi_Ro (by decide) fl_Ro_15 (xw_9 ht) rfl d_Ro_push_11 ?_
  refine zz_aload_n C d_Ro_push_14 rfl ?_
  refine zz_get C (ci := 2) (N := 5) 3 rfl zi_Ro (by decide) fl_Ro_22 (xw_9 ht) rfl d_Ro_push_15 ?_
  refine zz_iload_n C d_Ro_push_18 rfl ?_
  refine xs_10 C ht hL d_Ro_push_19 ?_
  refine zz_aload_n C d_Ro_push_20 rfl ?_
  refine zz_get C (ci := 2) (N := 5) 2 rfl zi_Ro (by decide) fl_Ro_18 (xw_9 ht) rfl d_Ro_push_21 ?_
  refine zz_aload_n C d_Ro_push_24 rfl ?_
  refine zz_get C (ci := 2) (N := 5) 3 rfl zi_Ro (by decide) fl_Ro_22 (xw_9 ht) rfl d_Ro_push_25 ?_
  refine zz_iload_n C d_Ro_push_28 rfl ?_
  refine xs_11 C ht hL d_Ro_push_29 ?_
  refine zz_aload_n C d_Ro_push_30 rfl ?_
  refine zz_dup C d_Ro_push_31 rfl ?_
  refine zz_get C (ci := 2) (N := 5) 3 rfl zi_Ro (by decide) fl_Ro_22 (xw_9 ht) rfl d_Ro_push_32 ?_
  refine zz_iconst (x := 1) C d_Ro_push_35 rfl ?_
  refine zz_iadd C d_Ro_push_36 ?_
  refine xp_12 C fl_Ro_22 ht rfl rfl d_Ro_push_37 ?_
  exact xr_v C hr d_Ro_push_40 (by first | rfl | simp [xf_push, z_at])
set_option maxHeartbeats 400000 in
set_option maxRecDepth 100000 in
theorem c_Ro_pop {l : Launch} {D : va_G} {dA : Nat → ClassId} {lo n : Nat} {σ : zS} {t : Nat} (ht : t < 4) : xM l y_Ro_pop b_Ro_pop 1 none 0 D dA lo n [.ref (xa9 lo t)] σ none (xf_pop σ t) := by
  refine zM_of (lv0 := [(0, .ref (xa9 lo t))]) (by decide) rfl rfl rfl ?_
  intro p e s m below meth c C hr hnm hsz
  have C : zC p s m ([.ref (xa9 lo t)] : List Value).toArray meth c b_Ro_pop 1 R_Ro D dA := C
  refine zz_aload_n C d_Ro_pop_0 rfl ?_
  refine zz_dup C d_Ro_pop_1 rfl ?_
  refine zz_get C (ci := 2) (N := 5) 3 rfl zi_Ro (by decide) fl_Ro_22 (xw_9 ht) rfl d_Ro_pop_2 ?_
  refine zz_iconst (x := 1) C d_Ro_pop_5 rfl ?_
  refine zz_isub C d_Ro_pop_6 ?_
  refine xp_12 C fl_Ro_22 ht rfl rfl d_Ro_pop_7 ?_
  exact xr_v C hr d_Ro_pop_10 (by first | rfl | simp [xf_pop, z_at])
set_option maxHeartbeats 400000 in
set_option maxRecDepth 100000 in
theorem c_Ro_firstWith {l : Launch} {D : va_G} {dA : Nat → ClassId} {lo n : Nat} {σ : zS} {t : Nat} {a : Int32} (ht : t < 4) (I : xI σ) : xM l y_Ro_firstWith b_Ro_firstWith 4 (some .int) 1 D dA lo n [.ref (xa9 lo t), .int a] σ (some (.int (xf_firstWith σ t a))) σ := by
  refine zM_of (lv0 := [(0, .ref (xa9 lo t)), (1, .int a)]) (by decide) rfl rfl rfl ?_
  intro p e s m below meth c C hr hnm hsz
  have C : zC p s m ([.ref (xa9 lo t), .int a] : List Value).toArray meth c b_Ro_firstWith 4 R_Ro D dA := C
  have loop : ∀ (k i : Nat) (step iv : Int32), iv = nI i → i + k = 12 → z_o 12 step → xf_fw σ t a k step = xf_firstWith σ t a → xZ p l e 1 s m ([.ref (xa9 lo t), .int a] : List Value).toArray below meth c D dA lo 4 n (some (.int (xf_firstWith σ t a))) (σ) (σ) 7 [(0, .ref (xa9 lo t)), (1, .int a), (2, .int step), (3, .int iv)] [] := by
    intro k
    induction k with
    | zero =>
      intro i step iv hiv hik hs hres
      refine zz_iload_n C d_Ro_firstWith_7 rfl ?_
      refine zz_bipush (x := 12) C d_Ro_firstWith_8 rfl ?_
      refine zz_icmp_ge (tgt := 43) C d_Ro_firstWith_10 (by decide) (fun h10 => ?_) (fun h10 => ?_)
      · refine zz_iconst (x := -1) C d_Ro_firstWith_43 rfl ?_
        exact xr_i C hr rfl d_Ro_firstWith_44 (by rw [← hres]; rfl) rfl
      · exact absurd (z_ge (N := 12) hiv rfl (by omega) (by omega)) h10
    | succ k ih =>
      intro i step iv hiv hik hs hres
      unfold xf_fw at hres
      refine zz_iload_n C d_Ro_firstWith_7 rfl ?_
      refine zz_bipush (x := 12) C d_Ro_firstWith_8 rfl ?_
      refine zz_icmp_ge (tgt := 43) C d_Ro_firstWith_10 (by decide) (fun h10 => ?_) (fun h10 => ?_)
      · exact absurd h10 (z_nge hiv rfl (show i < 12 by omega) (by decide))
      · refine zz_iload_n C d_Ro_firstWith_13 rfl ?_
        refine zz_iconst (x := -1) C d_Ro_firstWith_14 rfl ?_
        refine zz_icmp_eq (tgt := 43) C d_Ro_firstWith_15 (by decide) (fun h15 => ?_) (fun h15 => ?_)
        · refine zz_iconst (x := -1) C d_Ro_firstWith_43 rfl ?_
          exact xr_i C hr rfl d_Ro_firstWith_44 (by rw [← hres, if_pos h15]) rfl
        · refine zz_aload_n C d_Ro_firstWith_18 rfl ?_
          refine zz_get C (ci := 2) (N := 5) 0 rfl zi_Ro (by decide) fl_Ro_9 (xw_9 ht) rfl d_Ro_firstWith_19 ?_
          refine zz_iload_n C d_Ro_firstWith_22 rfl ?_
          refine zz_iald C (t0 := 0) rfl (xw_10 ht) (z_ovin hs h15) d_Ro_firstWith_23 ?_
          refine zz_iload_n C d_Ro_firstWith_24 rfl ?_
          refine zz_icmp_ne (tgt := 30) C d_Ro_firstWith_25 (by decide) (fun h25 => ?_) (fun h25 => ?_)
          · refine zz_aload_n C d_Ro_firstWith_30 rfl ?_
            refine zz_get C (ci := 2) (N := 5) 1 rfl zi_Ro (by decide) fl_Ro_15 (xw_9 ht) rfl d_Ro_firstWith_31 ?_
            refine zz_iload_n C d_Ro_firstWith_34 rfl ?_
            refine zz_iald C (t0 := 0) rfl (xw_11 ht) (z_ovin hs h15) d_Ro_firstWith_35 ?_
            refine zz_istore_n C d_Ro_firstWith_36 (by decide) ?_
            refine zz_iinc (d' := 1) C d_Ro_firstWith_37 rfl rfl (by decide) ?_
            refine zz_goto (tgt := 7) C d_Ro_firstWith_40 (by decide) ?_
            refine zz_lv [0, 1, 2, 3] rfl ?_
            exact ih (i + 1) _ _ (z_sI hiv) (by omega) (I.2.2.2.2.2.2.1 t ht _ (z_vlt (z_ovin hs h15))) (by rw [← hres, if_neg h15, if_neg h25])
          · refine zz_iload_n C d_Ro_firstWith_28 rfl ?_
            exact xr_i C hr rfl d_Ro_firstWith_29 (by rw [← hres, if_neg h15, if_pos h25]) rfl
  refine zz_aload_n C d_Ro_firstWith_0 rfl ?_
  refine xc_Vi C (xw_9 ht) rfl s_Ro_26 (c_Ro_top ht) rfl rfl d_Ro_firstWith_1 k_Ro_top ⟨by decide, by decide⟩ rfl ?_
  refine zz_istore_n C d_Ro_firstWith_4 (by decide) ?_
  refine zz_iconst (x := 0) C d_Ro_firstWith_5 rfl ?_
  refine zz_istore_n C d_Ro_firstWith_6 (by decide) ?_
  refine zz_lv [0, 1, 2, 3] rfl ?_
  exact loop 12 0 _ _ nI_0.symm rfl (x_top_o I ht) rfl
set_option maxHeartbeats 400000 in
set_option maxRecDepth 100000 in
theorem c_Ro_hasInView {l : Launch} {D : va_G} {dA : Nat → ClassId} {lo n : Nat} {σ : zS} {t : Nat} {a : Int32} (ht : t < 4) (I : xI σ) : xM l y_Ro_hasInView b_Ro_hasInView 2 (some .boolean) 2 D dA lo n [.ref (xa9 lo t), .int a] σ (some (.int (xf_hasInView σ t a))) σ := by
  refine zM_of (lv0 := [(0, .ref (xa9 lo t)), (1, .int a)]) (by decide) rfl rfl rfl ?_
  intro p e s m below meth c C hr hnm hsz
  have C : zC p s m ([.ref (xa9 lo t), .int a] : List Value).toArray meth c b_Ro_hasInView 2 R_Ro D dA := C
  refine zz_aload_n C d_Ro_hasInView_0 rfl ?_
  refine zz_iload_n C d_Ro_hasInView_1 rfl ?_
  refine xc_Vi C (xw_9 ht) rfl s_Ro_30 (c_Ro_firstWith ht I) rfl rfl d_Ro_hasInView_2 k_Ro_firstWith ⟨by decide, by decide⟩ rfl ?_
  refine zz_iconst (x := -1) C d_Ro_hasInView_5 rfl ?_
  refine zz_icmp_eq (tgt := 13) C d_Ro_hasInView_6 (by decide) (fun h6 => ?_) (fun h6 => ?_)
  · refine zz_iconst (x := 0) C d_Ro_hasInView_13 rfl ?_
    exact xr_i C hr rfl d_Ro_hasInView_14 (by simp only [xf_hasInView, if_pos h6] <;> simp [xf_hasInView, z_at]) rfl
  · refine zz_iconst (x := 1) C d_Ro_hasInView_9 rfl ?_
    refine zz_goto (tgt := 14) C d_Ro_hasInView_10 (by decide) ?_
    exact xr_i C hr rfl d_Ro_hasInView_14 (by simp only [xf_hasInView, if_neg h6] <;> simp [xf_hasInView, z_at]) rfl
set_option maxHeartbeats 400000 in
set_option maxRecDepth 100000 in
theorem c_Ro_underOfFirstWith {l : Launch} {D : va_G} {dA : Nat → ClassId} {lo n : Nat} {σ : zS} {t : Nat} {a : Int32} (ht : t < 4) (I : xI σ) : xM l y_Ro_underOfFirstWith b_Ro_underOfFirstWith 3 (some .int) 2 D dA lo n [.ref (xa9 lo t), .int a] σ (some (.int (xf_underOfFirstWith σ t a))) σ := by
  refine zM_of (lv0 := [(0, .ref (xa9 lo t)), (1, .int a)]) (by decide) rfl rfl rfl ?_
  intro p e s m below meth c C hr hnm hsz
  have C : zC p s m ([.ref (xa9 lo t), .int a] : List Value).toArray meth c b_Ro_underOfFirstWith 3 R_Ro D dA := C
  refine zz_aload_n C d_Ro_underOfFirstWith_0 rfl ?_
  refine zz_iload_n C d_Ro_underOfFirstWith_1 rfl ?_
  refine xc_Vi C (xw_9 ht) rfl s_Ro_30 (c_Ro_firstWith ht I) rfl rfl d_Ro_underOfFirstWith_2 k_Ro_firstWith ⟨by decide, by decide⟩ rfl ?_
  refine zz_istore_n C d_Ro_underOfFirstWith_5 (by decide) ?_
  refine zz_iload_n C d_Ro_underOfFirstWith_6 rfl ?_
  refine zz_iconst (x := -1) C d_Ro_underOfFirstWith_7 rfl ?_
  refine zz_icmp_ne (tgt := 15) C d_Ro_underOfFirstWith_8 (by decide) (fun h8 => ?_) (fun h8 => ?_)
  · refine zz_aload_n C d_Ro_underOfFirstWith_15 rfl ?_
    refine zz_get C (ci := 2) (N := 5) 1 rfl zi_Ro (by decide) fl_Ro_15 (xw_9 ht) rfl d_Ro_underOfFirstWith_16 ?_
    refine zz_iload_n C d_Ro_underOfFirstWith_19 rfl ?_
    refine zz_iald C (t0 := 0) rfl (xw_11 ht) (z_ovin (x_firstWith_o I ht) h8) d_Ro_underOfFirstWith_20 ?_
    exact xr_i C hr rfl d_Ro_underOfFirstWith_21 (by simp only [xf_underOfFirstWith, if_neg h8] <;> simp [xf_underOfFirstWith, z_at]) rfl
  · refine zz_iconst (x := -1) C d_Ro_underOfFirstWith_11 rfl ?_
    refine zz_goto (tgt := 21) C d_Ro_underOfFirstWith_12 (by decide) ?_
    exact xr_i C hr rfl d_Ro_underOfFirstWith_21 (by simp only [xf_underOfFirstWith, if_pos h8] <;> simp [xf_underOfFirstWith, z_at]) rfl
set_option maxHeartbeats 400000 in
set_option maxRecDepth 100000 in
theorem c_Ro_nearestScope {l : Launch} {D : va_G} {dA : Nat → ClassId} {lo n : Nat} {σ : zS} {t : Nat} (ht : t < 4) (I : xI σ) : xM l y_Ro_nearestScope b_Ro_nearestScope 3 (some .int) 1 D dA lo n [.ref (xa9 lo t)] σ (some (.int (xf_nearestScope σ t))) σ := by
  refine zM_of (lv0 := [(0, .ref (xa9 lo t))]) (by decide) rfl rfl rfl ?_
  intro p e s m below meth c C hr hnm hsz
  have C : zC p s m ([.ref (xa9 lo t)] : List Value).toArray meth c b_Ro_nearestScope 3 R_Ro D dA := C
  have loop : ∀ (k i : Nat) (step iv : Int32), iv = nI i → i + k = 12 → z_o 12 step → xf_ns σ t k step = xf_nearestScope σ t → xZ p l e 1 s m ([.ref (xa9 lo t)] : List Value).toArray below meth c D dA lo 3 n (some (.int (xf_nearestScope σ t))) (σ) (σ) 7 [(0, .ref (xa9 lo t)), (1, .int step), (2, .int iv)] [] := by
    intro k
    induction k with
    | zero =>
      intro i step iv hiv hik hs hres
      refine zz_iload_n C d_Ro_nearestScope_7 rfl ?_
      refine zz_bipush (x := 12) C d_Ro_nearestScope_8 rfl ?_
      refine zz_icmp_ge (tgt := 48) C d_Ro_nearestScope_10 (by decide) (fun h10 => ?_) (fun h10 => ?_)
      · refine zz_iconst (x := 0) C d_Ro_nearestScope_48 rfl ?_
        exact xr_i C hr rfl d_Ro_nearestScope_49 (by rw [← hres]; rfl) rfl
      · exact absurd (z_ge (N := 12) hiv rfl (by omega) (by omega)) h10
    | succ k ih =>
      intro i step iv hiv hik hs hres
      unfold xf_ns at hres
      refine zz_iload_n C d_Ro_nearestScope_7 rfl ?_
      refine zz_bipush (x := 12) C d_Ro_nearestScope_8 rfl ?_
      refine zz_icmp_ge (tgt := 48) C d_Ro_nearestScope_10 (by decide) (fun h10 => ?_) (fun h10 => ?_)
      · exact absurd h10 (z_nge hiv rfl (show i < 12 by omega) (by decide))
      · refine zz_iload_n C d_Ro_nearestScope_13 rfl ?_
        refine zz_iconst (x := -1) C d_Ro_nearestScope_14 rfl ?_
        refine zz_icmp_eq (tgt := 48) C d_Ro_nearestScope_15 (by decide) (fun h15 => ?_) (fun h15 => ?_)
        · refine zz_iconst (x := 0) C d_Ro_nearestScope_48 rfl ?_
          exact xr_i C hr rfl d_Ro_nearestScope_49 (by rw [← hres, if_pos h15]) rfl
        · refine zz_aload_n C d_Ro_nearestScope_18 rfl ?_
          refine zz_get C (ci := 2) (N := 5) 0 rfl zi_Ro (by decide) fl_Ro_9 (xw_9 ht) rfl d_Ro_nearestScope_19 ?_
          refine zz_iload_n C d_Ro_nearestScope_22 rfl ?_
          refine zz_iald C (t0 := 0) rfl (xw_10 ht) (z_ovin hs h15) d_Ro_nearestScope_23 ?_
          refine zz_iconst (x := 2) C d_Ro_nearestScope_24 rfl ?_
          refine zz_icmp_lt (tgt := 35) C d_Ro_nearestScope_25 (by decide) (fun h25 => ?_) (fun h25 => ?_)
          · refine zz_aload_n C d_Ro_nearestScope_35 rfl ?_
            refine zz_get C (ci := 2) (N := 5) 1 rfl zi_Ro (by decide) fl_Ro_15 (xw_9 ht) rfl d_Ro_nearestScope_36 ?_
            refine zz_iload_n C d_Ro_nearestScope_39 rfl ?_
            refine zz_iald C (t0 := 0) rfl (xw_11 ht) (z_ovin hs h15) d_Ro_nearestScope_40 ?_
            refine zz_istore_n C d_Ro_nearestScope_41 (by decide) ?_
            refine zz_iinc (d' := 1) C d_Ro_nearestScope_42 rfl rfl (by decide) ?_
            refine zz_goto (tgt := 7) C d_Ro_nearestScope_45 (by decide) ?_
            refine zz_lv [0, 1, 2] rfl ?_
            exact ih (i + 1) _ _ (z_sI hiv) (by omega) (I.2.2.2.2.2.2.1 t ht _ (z_vlt (z_ovin hs h15))) (by rw [← hres, if_neg h15, if_pos h25])
          · refine zz_aload_n C d_Ro_nearestScope_28 rfl ?_
            refine zz_get C (ci := 2) (N := 5) 0 rfl zi_Ro (by decide) fl_Ro_9 (xw_9 ht) rfl d_Ro_nearestScope_29 ?_
            refine zz_iload_n C d_Ro_nearestScope_32 rfl ?_
            refine zz_iald C (t0 := 0) rfl (xw_10 ht) (z_ovin hs h15) d_Ro_nearestScope_33 ?_
            exact xr_i C hr rfl d_Ro_nearestScope_34 (by rw [← hres, if_neg h15, if_neg h25]) rfl
  refine zz_aload_n C d_Ro_nearestScope_0 rfl ?_
  refine xc_Vi C (xw_9 ht) rfl s_Ro_26 (c_Ro_top ht) rfl rfl d_Ro_nearestScope_1 k_Ro_top ⟨by decide, by decide⟩ rfl ?_
  refine zz_istore_n C d_Ro_nearestScope_4 (by decide) ?_
  refine zz_iconst (x := 0) C d_Ro_nearestScope_5 rfl ?_
  refine zz_istore_n C d_Ro_nearestScope_6 (by decide) ?_
  refine zz_lv [0, 1, 2] rfl ?_
  exact loop 12 0 _ _ nI_0.symm rfl (x_top_o I ht) rfl
set_option maxHeartbeats 400000 in
set_option maxRecDepth 100000 in
theorem c_Ro_areaInView {l : Launch} {D : va_G} {dA : Nat → ClassId} {lo n : Nat} {σ : zS} {t : Nat} {d : Int32} (ht : t < 4) (I : xI σ) (hd : ¬ d < 0) : xM l y_Ro_areaInView b_Ro_areaInView 4 (some .int) 1 D dA lo n [.ref (xa9 lo t), .int d] σ (some (.int (xf_areaInView σ t d))) σ := by
  refine zM_of (lv0 := [(0, .ref (xa9 lo t)), (1, .int d)]) (by decide) rfl rfl rfl ?_
  intro p e s m below meth c C hr hnm hsz
  have C : zC p s m ([.ref (xa9 lo t), .int d] : List Value).toArray meth c b_Ro_areaInView 4 R_Ro D dA := C
  have fin : ∀ (step iv : Int32), z_o 12 step → xf_av σ t 12 (z_ix d) (xf_top σ t) = step → xZ p l e 1 s m ([.ref (xa9 lo t), .int d] : List Value).toArray below meth c D dA lo 4 n (some (.int (xf_areaInView σ t d))) (σ) (σ) 36 [(0, .ref (xa9 lo t)), (1, .int d), (2, .int step), (3, .int iv)] [] := by
    intro step iv hs hres
    refine zz_iload_n C d_Ro_areaInView_36 rfl ?_
    refine zz_iconst (x := -1) C d_Ro_areaInView_37 rfl ?_
    refine zz_icmp_ne (tgt := 45) C d_Ro_areaInView_38 (by decide) (fun h38 => ?_) (fun h38 => ?_)
    · refine zz_aload_n C d_Ro_areaInView_45 rfl ?_
      refine zz_get C (ci := 2) (N := 5) 0 rfl zi_Ro (by decide) fl_Ro_9 (xw_9 ht) rfl d_Ro_areaInView_46 ?_
      refine zz_iload_n C d_Ro_areaInView_49 rfl ?_
      refine zz_iald C (t0 := 0) rfl (xw_10 ht) (z_ovin hs h38) d_Ro_areaInView_50 ?_
      exact xr_i C hr rfl d_Ro_areaInView_51 (by simp [xf_areaInView, hres, h38]) rfl
    · refine zz_iconst (x := -1) C d_Ro_areaInView_41 rfl ?_
      refine zz_goto (tgt := 51) C d_Ro_areaInView_42 (by decide) ?_
      exact xr_i C hr rfl d_Ro_areaInView_51 (by simp [xf_areaInView, hres, h38]) rfl
  have loop : ∀ (k i : Nat) (step iv : Int32), iv = nI i → i + k = 12 → z_o 12 step → (¬ d < 0 → xf_av σ t k (z_ix d - i) step = xf_av σ t 12 (z_ix d) (xf_top σ t)) → xZ p l e 1 s m ([.ref (xa9 lo t), .int d] : List Value).toArray below meth c D dA lo 4 n (some (.int (xf_areaInView σ t d))) (σ) (σ) 7 [(0, .ref (xa9 lo t)), (1, .int d), (2, .int step), (3, .int iv)] [] := by
    intro k
    induction k with
    | zero =>
      intro i step iv hiv hik hs hres
      refine zz_iload_n C d_Ro_areaInView_7 rfl ?_
      refine zz_iload_n C d_Ro_areaInView_8 rfl ?_
      refine zz_icmp_ge (tgt := 36) C d_Ro_areaInView_9 (by decide) (fun h9 => ?_) (fun h9 => ?_)
      · exact fin _ _ hs (hres hd).symm
      · refine zz_iload_n C d_Ro_areaInView_12 rfl ?_
        refine zz_bipush (x := 12) C d_Ro_areaInView_13 rfl ?_
        refine zz_icmp_ge (tgt := 36) C d_Ro_areaInView_15 (by decide) (fun h15 => ?_) (fun h15 => ?_)
        · exact fin _ _ hs (hres hd).symm
        · exact absurd (z_ge (N := 12) hiv rfl (by omega) (by omega)) h15
    | succ k ih =>
      intro i step iv hiv hik hs hres
      refine zz_iload_n C d_Ro_areaInView_7 rfl ?_
      refine zz_iload_n C d_Ro_areaInView_8 rfl ?_
      refine zz_icmp_ge (tgt := 36) C d_Ro_areaInView_9 (by decide) (fun h9 => ?_) (fun h9 => ?_)
      · exact fin _ _ hs ((hres hd).symm.trans (by rw [x_av_d hd hiv h9]))
      · refine zz_iload_n C d_Ro_areaInView_12 rfl ?_
        refine zz_bipush (x := 12) C d_Ro_areaInView_13 rfl ?_
        refine zz_icmp_ge (tgt := 36) C d_Ro_areaInView_15 (by decide) (fun h15 => ?_) (fun h15 => ?_)
        · exact absurd h15 (z_nge hiv rfl (show i < 12 by omega) (by decide))
        · refine zz_iload_n C d_Ro_areaInView_18 rfl ?_
          refine zz_iconst (x := -1) C d_Ro_areaInView_19 rfl ?_
          refine zz_icmp_eq (tgt := 36) C d_Ro_areaInView_20 (by decide) (fun h20 => ?_) (fun h20 => ?_)
          · exact fin _ _ hs ((hres hd).symm.trans (by obtain ⟨q, hq⟩ := x_av_s hd hiv h9 (by omega); rw [hq]; unfold xf_av; rw [if_pos h20]))
          · refine zz_aload_n C d_Ro_areaInView_23 rfl ?_
            refine zz_get C (ci := 2) (N := 5) 1 rfl zi_Ro (by decide) fl_Ro_15 (xw_9 ht) rfl d_Ro_areaInView_24 ?_
            refine zz_iload_n C d_Ro_areaInView_27 rfl ?_
            refine zz_iald C (t0 := 0) rfl (xw_11 ht) (z_ovin hs h20) d_Ro_areaInView_28 ?_
            refine zz_istore_n C d_Ro_areaInView_29 (by decide) ?_
            refine zz_iinc (d' := 1) C d_Ro_areaInView_30 rfl rfl (by decide) ?_
            refine zz_goto (tgt := 7) C d_Ro_areaInView_33 (by decide) ?_
            refine zz_lv [0, 1, 2, 3] rfl ?_
            exact ih (i + 1) _ _ (z_sI hiv) (by omega) (I.2.2.2.2.2.2.1 t ht _ (z_vlt (z_ovin hs h20))) (fun _ => by
              rw [← hres hd]
              obtain ⟨q, hq⟩ := x_av_s hd hiv h9 (by omega)
              rw [hq, show z_ix d - (i + 1) = q by omega]
              conv => rhs; unfold xf_av
              rw [if_neg h20])
  refine zz_aload_n C d_Ro_areaInView_0 rfl ?_
  refine xc_Vi C (xw_9 ht) rfl s_Ro_26 (c_Ro_top ht) rfl rfl d_Ro_areaInView_1 k_Ro_top ⟨by decide, by decide⟩ rfl ?_
  refine zz_istore_n C d_Ro_areaInView_4 (by decide) ?_
  refine zz_iconst (x := 0) C d_Ro_areaInView_5 rfl ?_
  refine zz_istore_n C d_Ro_areaInView_6 (by decide) ?_
  refine zz_lv [0, 1, 2, 3] rfl ?_
  exact loop 12 0 _ _ nI_0.symm rfl (x_top_o I ht) (fun _ => rfl)
set_option maxHeartbeats 400000 in
set_option maxRecDepth 100000 in
theorem c_Ar_free {l : Launch} {D : va_G} {dA : Nat → ClassId} {lo n : Nat} {σ : zS} {i : Nat} (hi : i < 10) : xM l y_Ar_free b_Ar_free 1 (some .int) 0 D dA lo n [.ref (xa6 lo i)] σ (some (.int (xf_free σ i))) σ := by
  refine zM_of (lv0 := [(0, .ref (xa6 lo i))]) (by decide) rfl rfl rfl ?_
  intro p e s m below meth c C hr hnm hsz
  have C : zC p s m ([.ref (xa6 lo i)] : List Value).toArray meth c b_Ar_free 1 R_Ar D dA := C
  refine zz_aload_n C d_Ar_free_0 rfl ?_
  refine zz_get C (ci := 0) (N := 5) 0 rfl zi_Ar (by decide) fl_Ar_18 (xw_6 hi) rfl d_Ar_free_1 ?_
  refine zz_aload_n C d_Ar_free_4 rfl ?_
  refine zz_get C (ci := 0) (N := 5) 1 rfl zi_Ar (by decide) fl_Ar_21 (xw_6 hi) rfl d_Ar_free_5 ?_
  refine zz_isub C d_Ar_free_8 ?_
  exact xr_i C hr rfl d_Ar_free_9 (by first | rfl | simp [xf_free, z_at]) rfl
set_option maxHeartbeats 400000 in
set_option maxRecDepth 100000 in
theorem c_Ce_fill {l : Launch} {D : va_G} {dA : Nat → ClassId} {lo n : Nat} {σ : zS} {i : Nat} {a c0 : Int32} (hi : i < 40) : xM l y_Ce_fill b_Ce_fill 4 none 0 D dA lo n [.ref (xa7 lo i), .int a, .int c0] σ none (xf_fill σ i a c0) := by
  refine zM_of (lv0 := [(0, .ref (xa7 lo i)), (1, .int a), (2, .int c0)]) (by decide) rfl rfl rfl ?_
  intro p e s m below meth c C hr hnm hsz
  have C : zC p s m ([.ref (xa7 lo i), .int a, .int c0] : List Value).toArray meth c b_Ce_fill 4 R_Ce D dA := C
  have loop : ∀ (k j : Nat) (jv : Int32), jv = nI j → j + k = 4 → xZ p l e 0 s m ([.ref (xa7 lo i), .int a, .int c0] : List Value).toArray below meth c D dA lo 4 n none (xf_fill σ i a c0) (xf_ff (z_up (z_up σ 6 i 0 a) 7 i 0 c0) i j) 12 [(0, .ref (xa7 lo i)), (3, .int jv)] [] := by
    intro k
    induction k with
    | zero =>
      intro j jv hjv hjk
      obtain rfl : j = 4 := by omega
      refine zz_iload_n C d_Ce_fill_12 rfl ?_
      refine zz_iconst (x := 4) C d_Ce_fill_13 rfl ?_
      refine zz_icmp_ge (tgt := 30) C d_Ce_fill_14 (by decide) (fun h14 => ?_) (fun h14 => ?_)
      · exact xr_v C hr d_Ce_fill_30 rfl
      · exact absurd (z_ge (N := 4) hjv rfl (by omega) (by omega)) h14
    | succ k ih =>
      intro j jv hjv hjk
      refine zz_iload_n C d_Ce_fill_12 rfl ?_
      refine zz_iconst (x := 4) C d_Ce_fill_13 rfl ?_
      refine zz_icmp_ge (tgt := 30) C d_Ce_fill_14 (by decide) (fun h14 => ?_) (fun h14 => ?_)
      · exact absurd h14 (z_nge hjv rfl (show j < 4 by omega) (by decide))
      · refine zz_aload_n C d_Ce_fill_17 rfl ?_
        refine zz_get C (ci := 1) (N := 4) 0 rfl zi_Ce (by decide) fl_Ce_9 (xw_7 hi) rfl d_Ce_fill_18 ?_
        refine zz_iload_n C d_Ce_fill_21 rfl ?_
        refine zz_iconst (x := -1) C d_Ce_fill_22 rfl ?_
        refine xs_5 C hi (z_vinI hjv (by omega) (by decide)) d_Ce_fill_23 ?_
        refine zz_iinc (d' := 1) C d_Ce_fill_24 rfl rfl (by decide) ?_
        refine zz_goto (tgt := 12) C d_Ce_fill_27 (by decide) ?_
        refine zz_lv [0, 3] rfl ?_
        rw [show jv.toNatClampNeg = j from z_ixI hjv (by omega)]
        exact ih (j + 1) _ (z_sI hjv) (by omega)
  refine zz_aload_n C d_Ce_fill_0 rfl ?_
  refine zz_iload_n C d_Ce_fill_1 rfl ?_
  refine xp_6 C fl_Ce_15 hi rfl rfl d_Ce_fill_2 ?_
  refine zz_aload_n C d_Ce_fill_5 rfl ?_
  refine zz_iload_n C d_Ce_fill_6 rfl ?_
  refine xp_7 C fl_Ce_19 hi rfl rfl d_Ce_fill_7 ?_
  refine zz_iconst (x := 0) C d_Ce_fill_10 rfl ?_
  refine zz_istore_n C d_Ce_fill_11 (by decide) ?_
  refine zz_lv [0, 3] rfl ?_
  exact loop 4 0 _ nI_0.symm rfl
