theorem x_out18 {w : Int32} (h0 : ¬ w = 0) (h1 : ¬ w = 1) (h2 : ¬ w = 2) (h3 : ¬ w = 3) (h4 : ¬ w = 4) (h5 : ¬ w = 5) (h6 : ¬ w = 6) (h7 : ¬ w = 7) (h8 : ¬ w = 8) (h9 : ¬ w = 9) (h10 : ¬ w = 10) (h11 : ¬ w = 11) (h12 : ¬ w = 12) (h13 : ¬ w = 13) (h14 : ¬ w = 14) (h15 : ¬ w = 15) (h16 : ¬ w = 16) (h17 : ¬ w = 17) : w.toInt < 0 ∨ 17 < w.toInt := by
  have n0 : ¬ w.toInt = 0 := fun q => h0 (Int32.toInt_inj.mp q)
  have n1 : ¬ w.toInt = 1 := fun q => h1 (Int32.toInt_inj.mp q)
  have n2 : ¬ w.toInt = 2 := fun q => h2 (Int32.toInt_inj.mp q)
  have n3 : ¬ w.toInt = 3 := fun q => h3 (Int32.toInt_inj.mp q)
  have n4 : ¬ w.toInt = 4 := fun q => h4 (Int32.toInt_inj.mp q)
  have n5 : ¬ w.toInt = 5 := fun q => h5 (Int32.toInt_inj.mp q)
  have n6 : ¬ w.toInt = 6 := fun q => h6 (Int32.toInt_inj.mp q)
  have n7 : ¬ w.toInt = 7 := fun q => h7 (Int32.toInt_inj.mp q)
  have n8 : ¬ w.toInt = 8 := fun q => h8 (Int32.toInt_inj.mp q)
  have n9 : ¬ w.toInt = 9 := fun q => h9 (Int32.toInt_inj.mp q)
  have n10 : ¬ w.toInt = 10 := fun q => h10 (Int32.toInt_inj.mp q)
  have n11 : ¬ w.toInt = 11 := fun q => h11 (Int32.toInt_inj.mp q)
  have n12 : ¬ w.toInt = 12 := fun q => h12 (Int32.toInt_inj.mp q)
  have n13 : ¬ w.toInt = 13 := fun q => h13 (Int32.toInt_inj.mp q)
  have n14 : ¬ w.toInt = 14 := fun q => h14 (Int32.toInt_inj.mp q)
  have n15 : ¬ w.toInt = 15 := fun q => h15 (Int32.toInt_inj.mp q)
  have n16 : ¬ w.toInt = 16 := fun q => h16 (Int32.toInt_inj.mp q)
  have n17 : ¬ w.toInt = 17 := fun q => h17 (Int32.toInt_inj.mp q)
  omega
theorem lw_gt {L j : Nat} (hL : L ≤ 2562) (hj : j ≤ L + 5) : nI L - 5 < nI j ↔ L < j + 5 := by
  rw [show (5 : Int32) = nI 5 from rfl, Int32.lt_iff_toInt_lt, pk_sub_toInt (by omega) (by omega), nI_toInt (by omega)]
  omega
section LL
variable {p : Program} {l : Launch} {e : Env} {s : State} {m : MethodId} {below : List Frame} {meth : Method} {c : Code} {D : va_G} {dA : Nat → ClassId} {n kc ks lo b L : Nat} {xs : Nat → Int32}
set_option maxRecDepth 100000 in
theorem lw_end (C : zC p s m #[Value.ref b] meth c b_law_law 4 R_law D dA) (hr : meth.sig.returnType = ret) (hk : kc ≤ 600000 ∧ ks ≤ 7302249) {w : zW} {lv : zL} : zz p l e room_1 s m #[Value.ref b] below meth c D (fun q => s.heap.size ≤ q) 4 (lw_Z below #[Value.ref b] s) w n kc ks 716 lv [] := by
  refine zz_iconst (x := 1) C d_law_law_716 rfl ?_
  intro H locs ls hn hP hS hL
  refine va_forget (fun q hq => hS.2.2 q hq) ?_
  refine W.widen hk.1 hk.2 ?_
  exact lw_ret C.1 C.2.1 hr C.2.2.2.2.2.2 d_law_law_717
set_option maxRecDepth 100000 in
set_option maxHeartbeats 1000000 in
theorem lw_loop (C : zC p s m #[Value.ref b] meth c b_law_law 4 R_law D dA) (hr : meth.sig.returnType = ret) (hX : va_X b L xs s s.heap) (hbl : b < s.heap.size) (hL : L ≤ 2562) (hlo : s.heap.size ≤ lo) (hk : kc ≤ 600000 ∧ ks ≤ 7302249) : ∀ (k j : Nat), L ≤ j + k → j ≤ L + 5 → ∀ σ ρ : zS, zOk σ ρ → zz p l e room_1 s m #[Value.ref b] below meth c D (fun q => s.heap.size ≤ q) 4 (lw_Z below #[Value.ref b] s) (lw_w dA lo σ ρ) n kc ks 38 [(0, .ref b), (1, .ref (xa0 lo 0)), (2, .ref (ma0 (lo + 112) 0)), (3, .int (nI j))] [] := by
  have hbA : ¬ (fun q => s.heap.size ≤ q) b := Nat.not_le.mpr hbl
  intro k
  induction k with
  | zero =>
    intro j h1 h2 σ ρ O
    refine zz_iload_n C d_law_law_38 rfl ?_
    refine zz_aload_n C d_law_law_39 rfl ?_
    refine zz_slen C hX hbl hbA d_law_law_40 ?_
    refine zz_iconst (x := 5) C d_law_law_41 rfl ?_
    refine zz_isub C d_law_law_42 ?_
    exact zz_icmp_gt (tgt := 716) C d_law_law_43 (by decide) (fun _ => lw_end C hr hk) (fun q => absurd ((lw_gt hL h2).mpr (by omega)) q)
  | succ k ih =>
    intro j h1 h2 σ ρ O
    refine zz_iload_n C d_law_law_38 rfl ?_
    refine zz_aload_n C d_law_law_39 rfl ?_
    refine zz_slen C hX hbl hbA d_law_law_40 ?_
    refine zz_iconst (x := 5) C d_law_law_41 rfl ?_
    refine zz_isub C d_law_law_42 ?_
    refine zz_icmp_gt (tgt := 716) C d_law_law_43 (by decide) (fun _ => lw_end C hr hk) (fun q => ?_)
    have hj : j + 5 ≤ L := by
      have := mt (lw_gt hL h2).mpr q
      omega
    have next : ∀ σ' ρ' : zS, zOk σ' ρ' → zz p l e room_1 s m #[Value.ref b] below meth c D (fun q => s.heap.size ≤ q) 4 (lw_Z below #[Value.ref b] s) (lw_w dA lo σ' ρ') n kc ks 710 [(0, .ref b), (1, .ref (xa0 lo 0)), (2, .ref (ma0 (lo + 112) 0)), (3, .int (nI j))] [] := by
      intro σ' ρ' O'
      refine zz_iinc (i := 3) (x := nI j) (d' := 5) C d_law_law_710 rfl rfl (by decide) ?_
      refine zz_goto (tgt := 38) C d_law_law_713 (by decide) ?_
      rw [show nI j + 5 = nI (j + 5) from nI_add j 5]
      refine zz_lv [0, 1, 2, 3] rfl ?_
      exact ih (j + 5) (by omega) (by omega) σ' ρ' O'
    refine zz_aload_n C d_law_law_46 rfl ?_
    refine zz_iload_n C d_law_law_47 rfl ?_
    refine zz_sld C hX hbl hbA (vp_in_nI (by omega) (by omega)) d_law_law_48 ?_
    refine zz_bipush (x := 31) C d_law_law_49 rfl ?_
    refine zz_iand C d_law_law_51 ?_
    generalize xs (nI j).toNatClampNeg &&& 31 = g
    by_cases g0 : g = 0
    · subst g0
      exact zz_tableIn (tgt := 140) C d_law_law_52 (by decide) (by decide) rfl (by decide) (lw_case0 C hX hbl hL hj hlo hk O next)
    by_cases g1 : g = 1
    · subst g1
      exact zz_tableIn (tgt := 163) C d_law_law_52 (by decide) (by decide) rfl (by decide) (lw_case1 C hX hbl hL hj hlo hk O next)
    by_cases g2 : g = 2
    · subst g2
      exact zz_tableIn (tgt := 212) C d_law_law_52 (by decide) (by decide) rfl (by decide) (lw_case2 C hX hbl hL hj hlo hk O next)
    by_cases g3 : g = 3
    · subst g3
      exact zz_tableIn (tgt := 245) C d_law_law_52 (by decide) (by decide) rfl (by decide) (lw_case3 C hX hbl hL hj hlo hk O next)
    by_cases g4 : g = 4
    · subst g4
      exact zz_tableIn (tgt := 278) C d_law_law_52 (by decide) (by decide) rfl (by decide) (lw_case4 C hX hbl hL hj hlo hk O next)
    by_cases g5 : g = 5
    · subst g5
      exact zz_tableIn (tgt := 301) C d_law_law_52 (by decide) (by decide) rfl (by decide) (lw_case5 C hX hbl hL hj hlo hk O next)
    by_cases g6 : g = 6
    · subst g6
      exact zz_tableIn (tgt := 334) C d_law_law_52 (by decide) (by decide) rfl (by decide) (lw_case6 C hX hbl hL hj hlo hk O next)
    by_cases g7 : g = 7
    · subst g7
      exact zz_tableIn (tgt := 387) C d_law_law_52 (by decide) (by decide) rfl (by decide) (lw_case7 C hX hbl hL hj hlo hk O next)
    by_cases g8 : g = 8
    · subst g8
      exact zz_tableIn (tgt := 430) C d_law_law_52 (by decide) (by decide) rfl (by decide) (lw_case8 C hX hbl hL hj hlo hk O next)
    by_cases g9 : g = 9
    · subst g9
      exact zz_tableIn (tgt := 473) C d_law_law_52 (by decide) (by decide) rfl (by decide) (lw_case9 C hX hbl hL hj hlo hk O next)
    by_cases g10 : g = 10
    · subst g10
      exact zz_tableIn (tgt := 506) C d_law_law_52 (by decide) (by decide) rfl (by decide) (lw_case10 C hX hbl hL hj hlo hk O next)
    by_cases g11 : g = 11
    · subst g11
      exact zz_tableIn (tgt := 549) C d_law_law_52 (by decide) (by decide) rfl (by decide) (lw_case11 C hX hbl hL hj hlo hk O next)
    by_cases g12 : g = 12
    · subst g12
      exact zz_tableIn (tgt := 562) C d_law_law_52 (by decide) (by decide) rfl (by decide) (lw_case12 C hX hbl hL hj hlo hk O next)
    by_cases g13 : g = 13
    · subst g13
      exact zz_tableIn (tgt := 585) C d_law_law_52 (by decide) (by decide) rfl (by decide) (lw_case13 C hX hbl hL hj hlo hk O next)
    by_cases g14 : g = 14
    · subst g14
      exact zz_tableIn (tgt := 608) C d_law_law_52 (by decide) (by decide) rfl (by decide) (lw_case14 C hX hbl hL hj hlo hk O next)
    by_cases g15 : g = 15
    · subst g15
      exact zz_tableIn (tgt := 631) C d_law_law_52 (by decide) (by decide) rfl (by decide) (lw_case15 C hX hbl hL hj hlo hk O next)
    by_cases g16 : g = 16
    · subst g16
      exact zz_tableIn (tgt := 654) C d_law_law_52 (by decide) (by decide) rfl (by decide) (lw_case16 C hX hbl hL hj hlo hk O next)
    by_cases g17 : g = 17
    · subst g17
      exact zz_tableIn (tgt := 687) C d_law_law_52 (by decide) (by decide) rfl (by decide) (lw_case17 C hX hbl hL hj hlo hk O next)
    exact zz_tableOut (tgt := 710) C d_law_law_52 (x_out18 g0 g1 g2 g3 g4 g5 g6 g7 g8 g9 g10 g11 g12 g13 g14 g15 g16 g17) (by decide) (next σ ρ O)
end LL
theorem zc_lSM : Cond.classLink R_law 7 R_SM ∈ zT ∧ Cond.instantiable R_SM 8 ∈ zT ∧ Cond.initialized R_SM ∈ zT := ⟨zt_of (i := 7) (by decide +kernel) rfl, zi_inSM, zt_of (i := 1) (by decide +kernel) rfl⟩
theorem zc_lMM : Cond.classLink R_law 18 R_MM ∈ zT ∧ Cond.instantiable R_MM 16 ∈ zT ∧ Cond.initialized R_MM ∈ zT := ⟨zt_of (i := 331) (by decide +kernel) rfl, zi_inMM, zt_of (i := 6) (by decide +kernel) rfl⟩
theorem xdf_SM : ∀ j, j < 8 → defaultValue (t_SM j) = vp_V [.null, .null, .null, .null, .null, .int 0, .int 0, .int 0] j := by
  intro j hj
  match j, hj with
  | 0, _ => rfl
  | 1, _ => rfl
  | 2, _ => rfl
  | 3, _ => rfl
  | 4, _ => rfl
  | 5, _ => rfl
  | 6, _ => rfl
  | 7, _ => rfl
theorem xdf_MM : ∀ j, j < 16 → defaultValue (t_MM j) = vp_V [.int 0, .null, .null, .null, .null, .null, .null, .null, .null, .null, .null, .null, .null, .null, .null, .null] j := by
  intro j hj
  match j, hj with
  | 0, _ => rfl
  | 1, _ => rfl
  | 2, _ => rfl
  | 3, _ => rfl
  | 4, _ => rfl
  | 5, _ => rfl
  | 6, _ => rfl
  | 7, _ => rfl
  | 8, _ => rfl
  | 9, _ => rfl
  | 10, _ => rfl
  | 11, _ => rfl
  | 12, _ => rfl
  | 13, _ => rfl
  | 14, _ => rfl
  | 15, _ => rfl
  | k + 16, h => omega
set_option maxRecDepth 100000 in
set_option maxHeartbeats 1000000 in
theorem lw_first {p : Program} {l : Launch} {e : Env} {s : State} {m : MethodId} {below : List Frame} {meth : Method} {c : Code} {D : va_G} {dA : Nat → ClassId} {b L lo : Nat} {xs : Nat → Int32} (C : zC p s m #[Value.ref b] meth c b_law_law 4 R_law D dA) (hr : meth.sig.returnType = ret) (hX : va_X b L xs s s.heap) (hbl : b < s.heap.size) (hL : L ≤ 2562) (hlo : s.heap.size ≤ lo) : zz p l e room_1 s m #[Value.ref b] below meth c D (fun q => s.heap.size ≤ q) 4 (lw_Z below #[Value.ref b] s) (fun _ => none) lo 0 0 0 [(0, .ref b)] [] := by
  have hbA : ¬ (fun q => s.heap.size ≤ q) b := Nat.not_le.mpr hbl
  have hLs : L < 2 ^ 31 := by omega
  have rc : room_1.cells = 600000 := rfl
  have rs : room_1.slots = 7302249 := rfl
  have rl : room_1.locals = 266 := rfl
  have rf : room_1.frames = 8 := rfl
  refine zz_newB (ci := 3) (N := 8) (fs := [.null, .null, .null, .null, .null, .int 0, .int 0, .int 0]) C rfl zi_SM t_SM t_SM_ok zc_lSM xdf_SM (by rw [rc]; omega) (by rw [rs]; omega) d_law_law_0 ?_
  refine zz_dup C d_law_law_3 rfl ?_
  refine zz_aload_n C d_law_law_4 rfl ?_
  refine zz_iconst (x := 0) C d_law_law_5 rfl ?_
  refine zz_cell C hX hbl hbA hLs (by decide) d_law_law_6 ⟨by rw [rf]; omega, by rw [rl]; omega⟩ ⟨by rw [rc]; omega, by rw [rs]; omega⟩ (by simp [Value.category]) ?_
  refine zz_aload_n C d_law_law_9 rfl ?_
  refine zz_iconst (x := 1) C d_law_law_10 rfl ?_
  refine zz_cell C hX hbl hbA hLs (by decide) d_law_law_11 ⟨by rw [rf]; omega, by rw [rl]; omega⟩ ⟨by rw [rc]; omega, by rw [rs]; omega⟩ (by simp [Value.category]) ?_
  generalize ea : lw_cell L xs 0 = h
  generalize eb : lw_cell L xs 1 = im
  refine zz_callIv (b := xa0 lo 0) (As := [.int h, .int im]) (rest := [.ref lo]) (ret := none) (x := 0) (host := "") (A1 := xA lo) (wc := xwn lo) (w1 := xw dA lo (x0 h im)) (w2 := xw dA lo (x0 h im)) (mc := 111) (ms := 632) C s_law_15 c_SM_init rfl rfl d_law_law_14 k_SM_init (fun q e g => ?_) (fun q g => Nat.le_trans hlo g.1) (fun q e g => Or.inl g) ⟨rfl, rfl⟩ ⟨by rw [rf]; decide, by rw [rl]; decide⟩ ⟨by rw [rc]; omega, by rw [rs]; omega⟩ (by simp [Value.category]) ?_
  · unfold xwn at g
    by_cases z : q = lo
    · rw [if_pos z] at g
      subst z
      rw [va_up_self]
      exact g
    · rw [if_neg z] at g
      cases g
  refine zz_astore_n C d_law_law_17 (by decide) ?_
  refine zz_newB (ci := 4) (N := 16) (fs := [.int 0, .null, .null, .null, .null, .null, .null, .null, .null, .null, .null, .null, .null, .null, .null, .null]) C rfl zi_MM t_MM t_MM_ok zc_lMM xdf_MM (by rw [rc]; omega) (by rw [rs]; omega) d_law_law_18 ?_
  refine zz_dup C d_law_law_21 rfl ?_
  refine zz_aload_n C d_law_law_22 rfl ?_
  refine zz_iconst (x := 0) C d_law_law_23 rfl ?_
  refine zz_cell C hX hbl hbA hLs (by decide) d_law_law_24 ⟨by rw [rf]; omega, by rw [rl]; omega⟩ ⟨by rw [rc]; omega, by rw [rs]; omega⟩ (by simp [Value.category]) ?_
  refine zz_aload_n C d_law_law_27 rfl ?_
  refine zz_iconst (x := 1) C d_law_law_28 rfl ?_
  refine zz_cell C hX hbl hbA hLs (by decide) d_law_law_29 ⟨by rw [rf]; omega, by rw [rl]; omega⟩ ⟨by rw [rc]; omega, by rw [rs]; omega⟩ (by simp [Value.category]) ?_
  rw [ea, eb]
  refine zz_callIv (b := ma0 (lo + 112) 0) (As := [.int h, .int im]) (rest := [.ref (lo + 112)]) (ret := none) (x := 0) (host := "") (A1 := mA (lo + 112)) (wc := mwn (lo + 112)) (w1 := mw dA (lo + 112) (m0 h im)) (w2 := lw_w dA lo (x0 h im) (m0 h im)) (mc := 15) (ms := 480) C s_law_20 (c_MM_init rfl) rfl rfl d_law_law_32 k_MM_init (fun q e g => ?_) (fun q g => ?_) (fun q e g => ?_) ⟨rfl, rfl⟩ ⟨by rw [rf]; decide, by rw [rl]; decide⟩ ⟨by rw [rc]; omega, by rw [rs]; omega⟩ (by simp [Value.category]) ?_
  · unfold mwn at g
    by_cases z : q = lo + 112
    · rw [if_pos z] at g
      subst z
      rw [va_up_self]
      exact g
    · rw [if_neg z] at g
      cases g
  · show s.heap.size ≤ q
    have := g.1
    omega
  · unfold lw_w at g
    by_cases z : q < lo + 112
    · rw [if_pos z] at g
      refine Or.inr ⟨?_, fun y => ?_⟩
      · rw [va_up_ne _ _ (by omega)]
        exact g
      · have := y.1
        omega
    · rw [if_neg z] at g
      exact Or.inl g
  refine zz_astore_n C d_law_law_35 (by decide) ?_
  refine zz_iconst (x := 2) C d_law_law_36 rfl ?_
  refine zz_istore_n C d_law_law_37 (by decide) ?_
  refine zz_lv [0, 1, 2, 3] rfl ?_
  exact lw_loop C hr hX hbl hL hlo ⟨by omega, by omega⟩ L 2 (by omega) (by omega) _ _ s_start
/-- from the entry, for every script of at most 2562 ints, the law comes to its end with true -/
theorem whole_start {p : Program} {e : Env} {s : State} {m : MethodId} {below : List Frame} {meth : Method} {c : Code} (l : Launch) {b L : Nat} {xs : Nat → Int32} (hL : L ≤ 2562) (C0 : lw_At p s m meth c b L xs) : W p l e room_1 s m #[Value.ref b] below meth c s.heap [] 0 0 (lw_Z below #[Value.ref b] s) (entryFrame m ([Value.ref b] : List Value).toArray 4) := by
  obtain ⟨hx, hb, hr, hml, hown, hts, hX, hbl, hlocks, hgv⟩ := id C0
  obtain ⟨D, dA, hKK⟩ := lw_zKK C0
  have C : zC p s m #[Value.ref b] meth c b_law_law 4 R_law D dA := ⟨hx, hb, hml, hown, fun w hw => hts w (List.mem_filter.mp hw).1, hKK, hlocks⟩
  have hl := lv_entry ([.ref b] : List Value) (n := 4) (Nat.le_of_ble_eq_true rfl)
  rw [lg_entry_eq]
  exact lw_first C hr hX hbl hL (Nat.le_refl _) s.heap [] _ rfl (fun q e h => (by cases h)) va_S.rf ⟨_, hl, fun i v hv => ⟨z_lookup_mem _ i v hv, by
    have := z_lookup_mem _ i v hv
    rcases List.mem_cons.mp this with h | h
    · cases h; rfl
    · cases h⟩⟩
