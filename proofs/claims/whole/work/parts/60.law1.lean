def lw_P (b : Addr) (xs : List Int32) (args : Array Value) (s : State) : Prop := args = #[.ref b] ∧ s.IntsAt b xs ∧ xs.length ≤ 2562 ∧ (Jvm.Cond.and given_1 narrow_1).before args s = true
def lw_Q (_ : Array Value) (s : State) (o : Outcome) (t : State) : Prop := o = .returned (some (.int 1)) ∧ Framed s o t [] 600000 7302249
def lw_Z (below : List Frame) (a : Array Value) (s : State) : State → Prop := fun t => ∃ o, t.status = .running ∧ Ended t below o ∧ lw_Q a s o t
/-- the law's own end, with 1 on the stack, nothing written that was there before, its room as the claim has it -/
theorem lw_ret {p : Program} {l : Launch} {e : Env} {s : State} {m : MethodId} {below : List Frame} {meth : Method} {c : Code} {b : Nat} (hx : p.tables.exec = Jvm.exec) (hb : c.code = code) (hr : meth.sig.returnType = ret) (hlocks : meth.locks = false) {pc : Nat} {H : Heap} {ls : Array Slot} (hdg : decode code pc = .ok (.ireturn, 1)) : W p l e room_1 s m #[Value.ref b] below meth c H [] 600000 7302249 (lw_Z below #[Value.ref b] s) (F0 m pc ls [.int 1]) := by
  intro T hT X
  obtain ⟨fs, hret, hrun, hended, hW, hframe⟩ := X.leave (v := some (.int 1)) (hlocks := hlocks) (fun h => by rw [hr] at h; cases h)
  have hmeth' : T.vm.method? m = some meth := X.method'
  refine ⟨T.setFrames fs, ?_, .returned (some (.int 1)), hrun, hended, rfl, ⟨_, rfl⟩, hW, hframe⟩
  jvm_step X.here [X.here.top, hx, hb, hdg, hmeth', hr, ret, narrow_b1]
  (try refine ⟨rfl, ?_⟩); (try refine ⟨rfl, ?_⟩)
  first | (intro acts; rw [hret _ acts rfl rfl rfl]) | rw [hret _ _ rfl rfl rfl]
  exact Steps.refl _
/-- what holds at the law's entry: the machine, the code, the tables' words (any of lw_tbl by 'hts w (by decide +kernel)'), the script of L ints xs at the cell b, what the Statement gives of the start (any of its parts by flat_of_before) -/
def lw_At (p : Program) (s : State) (m : MethodId) (meth : Method) (c : Code) (b L : Nat) (xs : Nat → Int32) : Prop :=
  p.tables.exec = Jvm.exec ∧ c.code = code ∧ meth.sig.returnType = ret ∧ c.maxLocals = 4 ∧ s.vm.findClass R_law = some m.cls ∧ (∀ w ∈ lw_tbl, w.before #[Value.ref b] s = true) ∧ va_X b L xs s s.heap ∧ b < s.heap.size ∧ meth.locks = false ∧ (Jvm.Cond.and given_1 narrow_1).before #[Value.ref b] s = true
-- rows of the script
section LW
variable {p : Program} {l : Launch} {e : Env} {R : Room} {s : State} {m : MethodId} {args : Array Value} {below : List Frame} {meth : Method} {c : Code} {cc : ByteArray} {nL : Nat} {own : String} {D : va_G} {dA : Nat → ClassId} {A : Nat → Prop} {Q : State → Prop} {w : zW} {n kc ks pc : Nat} {lv : zL} {st : List Value}
theorem zz_sld (C : zC p s m args meth c cc nL own D dA) {b L : Nat} {xs : Nat → Int32} (hX : va_X b L xs s s.heap) (hbl : b < s.heap.size) (hbA : ¬ A b) {i : Int32} (hin : vp_in i L) (hd : decode cc pc = .ok (.iaload, 1)) (k : zz p l e R s m args below meth c D A nL Q w n kc ks (pc + 1) lv (.int (xs i.toNatClampNeg) :: st)) : zz p l e R s m args below meth c D A nL Q w n kc ks pc lv (.int i :: .ref b :: st) := fun H locs ls hn hP hS hL => va_sld C.1 C.2.1 hX hbl hbA hS hin hd (k H locs ls hn hP hS hL)
theorem zz_slen (C : zC p s m args meth c cc nL own D dA) {b L : Nat} {xs : Nat → Int32} (hX : va_X b L xs s s.heap) (hbl : b < s.heap.size) (hbA : ¬ A b) (hd : decode cc pc = .ok (.arraylength, 1)) (k : zz p l e R s m args below meth c D A nL Q w n kc ks (pc + 1) lv (.int (nI L) :: st)) : zz p l e R s m args below meth c D A nL Q w n kc ks pc lv (.ref b :: st) := fun H locs ls hn hP hS hL => va_slen C.1 C.2.1 hX hbl hbA hS hd (k H locs ls hn hP hS hL)
def zXs (D : va_G) (dA : Nat → ClassId) (b L n : Nat) (xs : Nat → Int32) : State → Prop := fun U => U.heap.size = n ∧ zP D (fun _ => none) U.heap ∧ zKK D dA U ∧ va_X b L xs U U.heap ∧ b < U.heap.size
def lw_cell (L : Nat) (xs : Nat → Int32) (i : Int32) : Int32 := if nI L ≤ i then 0 else xs i.toNatClampNeg
set_option maxRecDepth 100000 in
theorem c_law_cell {b L : Nat} {xs : Nat → Int32} {i : Int32} (h0 : ¬ i < 0) (hL : L < 2 ^ 31) : Met l y_law_cell (.code y_law_cell b_law_cell 2 (some .int) :: zT) (zR 0) (va_Pc [.ref b, .int i] (zXs D dA b L n xs)) (zQ D (fun _ => False) (some (.int (lw_cell L xs i))) (fun _ => none) n) 0 0 (fun _ => False) := by
  refine Met.ofW (cc := b_law_cell) (maxL := 2) (ret := some .int) (by decide) rfl ?_
  intro p e s m args below meth c s₁ B hml hv
  obtain ⟨rfl, hsz, hP, hK, hX, hbl⟩ := hv
  have hts := atoms_spec (ws := .code y_law_cell b_law_cell 2 (some .int) :: zT) B.pre
  have hown : s.vm.findClass R_law = some m.cls := findClass_of_methodNamed B.named
  have hl := lv_entry ([.ref b, .int i] : List Value) (n := 2) (Nat.le_of_ble_eq_true rfl)
  have C : zC p s m ([.ref b, .int i] : List Value).toArray meth c b_law_cell 2 R_law D dA := ⟨B.exec, B.bytes, hml, hown, fun w hw => hts w (List.mem_cons_of_mem _ hw), hK, B.notSynchronized⟩
  have hr := B.returns
  have walk : zz p l e (zR 0) s m ([.ref b, .int i] : List Value).toArray below meth c D (fun _ => False) 2 (MQ below (zQ D (fun _ => False) (some (.int (lw_cell L xs i))) (fun _ => none) n) ([.ref b, .int i] : List Value).toArray s 0 0 (fun _ => False)) (fun _ => none) n 0 0 0 [(0, .ref b), (1, .int i)] [] := by
    refine zz_iload_n C d_law_cell_0 rfl ?_
    refine zz_aload_n C d_law_cell_1 rfl ?_
    refine zz_slen C hX hbl (fun h => h) d_law_cell_2 ?_
    refine zz_icmp_ge (tgt := 12) C d_law_cell_3 (by decide) (fun h => ?_) (fun h => ?_)
    · refine zz_iconst (x := 0) C d_law_cell_12 rfl ?_
      exact zz_iret C hr rfl d_law_cell_13 (Nat.le_refl _) (Nat.le_refl _) rfl (by unfold lw_cell; rw [if_pos h]) (fun _ _ h => h)
    · refine zz_aload_n C d_law_cell_6 rfl ?_
      refine zz_iload_n C d_law_cell_7 rfl ?_
      refine zz_sld C hX hbl (fun h => h) (fun q => ?_) d_law_cell_8 ?_
      · rcases q with q | q
        · exact h0 q
        · apply h
          obtain ⟨j, hj, ej⟩ := nI_of h0
          have q : L ≤ i.toNatClampNeg := q
          rw [ej] at q ⊢
          rw [nI_clamp hj] at q
          exact nI_le q hj
      · refine zz_goto (tgt := 13) C d_law_cell_9 (by decide) ?_
        exact zz_iret C hr rfl d_law_cell_13 (Nat.le_refl _) (Nat.le_refl _) rfl (by unfold lw_cell; rw [if_neg h]) (fun _ _ h => h)
  rw [lg_entry_eq]
  exact walk s.heap [] _ hsz hP va_S.rf ⟨_, hl, fun i v hv => ⟨z_lookup_mem _ i v hv, by
    have := z_lookup_mem _ i v hv
    rcases List.mem_cons.mp this with h | h
    · cases h; rfl
    · rcases List.mem_cons.mp h with h | h
      · cases h; rfl
      · cases h⟩⟩
theorem zz_cell (C : zC p s m args meth c cc nL R_law D dA) {b L : Nat} {xs : Nat → Int32} (hX : va_X b L xs s s.heap) (hbl : b < s.heap.size) (hbA : ¬ A b) (hL : L < 2 ^ 31) {i : Int32} (h0 : ¬ i < 0) (hd : decode cc pc = .ok (.invokestatic 9, 3)) (hR : 1 ≤ R.frames ∧ 21 ≤ R.locals) (hf : kc ≤ R.cells ∧ ks ≤ R.slots) (hcat : (st.map fun v => v.category).sum ≤ 8)
    (k : zz p l e R s m args below meth c D A nL Q w n kc ks (pc + 3) lv (.int (lw_cell L xs i) :: st)) : zz p l e R s m args below meth c D A nL Q w n kc ks pc lv (.int i :: .ref b :: st) := by
  intro H locs ls hn hP hS hLv
  have hts := C.2.2.2.2.1
  have hG : GoodIn zT (Cond.code y_law_cell b_law_cell 2 (some .int) :: zT) := fun w hw => by
    rcases List.mem_cons.mp hw with h | h
    · rw [h]; exact ⟨k_law_cell, zT_good _ k_law_cell⟩
    · exact ⟨h, zT_good _ h⟩
  have site := s_law_9
  refine zz_go (A1 := fun _ => False) (w1 := fun _ => none) (mc := 0) (ms := 0) hn hP hS hLv (va_runS (As := [.ref b, .int i]) (rest := st) ⟨C.1, C.2.1, C.2.2.1, C.2.2.2.1, hts⟩ (c_law_cell h0 hL) ⟨callB_of 2 hts hG rfl rfl rfl (hts _ site.2.1) (hts _ site.1.1) ⟨site.2.2.1, site.2.2.2.1, site.2.2.2.2⟩ ⟨hR.1, hR.2⟩, hts _ site.1.2⟩ ⟨fun a U g mk q => by obtain ⟨q0, q1, q2, q3, q4, q5⟩ := q; exact ⟨q0, q1, q2, q3.call, q4.moved (Vm.Alike.refl U.vm), q5⟩, fun U hU hW => ⟨rfl, by rw [hU]; exact hn, fun q e hq => (by cases hq), C.2.2.2.2.2.1.warm hW, by rw [hU]; exact (hX.moved hW.alike).kept (hS.2.1 b hbl hbA), by rw [hU]; exact Nat.lt_of_lt_of_le hbl hS.1⟩⟩ rfl rfl hLv.size rfl (lv_room hcat) hd hf) (fun _ h => h.elim) (fun q e h => Or.inr ⟨h, fun z => z⟩) k
end LW
-- the two worlds side by side
def lw_w (dA : Nat → ClassId) (lo : Nat) (σ ρ : zS) : zW := fun q => if q < lo + 112 then xw dA lo σ q else mw dA (lo + 112) ρ q
theorem lw_xin {dA : Nat → ClassId} {lo q : Nat} {σ : zS} {e : va_E} (h : xw dA lo σ q = some e) : lo ≤ q ∧ q < lo + 112 := by
  refine Decidable.byContradiction fun g => ?_
  unfold xw xk at h
  rw [if_pos (by omega)] at h
  cases h
theorem lw_min {dA : Nat → ClassId} {lo q : Nat} {σ : zS} {e : va_E} (h : mw dA lo σ q = some e) : lo ≤ q ∧ q < lo + 16 := by
  refine Decidable.byContradiction fun g => ?_
  unfold mw mk at h
  rw [if_pos (by omega)] at h
  cases h
section LV
variable {p : Program} {l : Launch} {e : Env} {s : State} {m : MethodId} {args : Array Value} {below : List Frame} {meth : Method} {c : Code} {D : va_G} {dA : Nat → ClassId} {Q : State → Prop} {n kc ks pc lo : Nat} {lv : zL} {σ σ' ρ ρ' : zS}
theorem lw_callX (C : zC p s m args meth c b_law_law 4 R_law D dA) {y : MethodName} {bytes : ByteArray} {maxL K idx na : Nat} {As rest st0 : List Value} {x : Int32} (hlo : s.heap.size ≤ lo) (hM : xM l y bytes maxL (some .int) K D dA lo n (.ref (xa0 lo 0) :: As) σ (some (.int x)) σ') (site : zSiteV R_law idx y na) (hy : y.cls = R_SM) (hst : st0 = As.reverse ++ .ref (xa0 lo 0) :: rest) (hna : As.length = na) (hd : decode b_law_law pc = .ok (.invokevirtual idx, 3)) (hcode : Cond.code y bytes maxL (some .int) ∈ zT) (hK : K ≤ 5 ∧ maxL ≤ 6) (hk : kc ≤ 600000 ∧ ks ≤ 7302249) (hcat : (rest.map fun v => v.category).sum ≤ 8)
    (k : zz p l e room_1 s m args below meth c D (fun q => s.heap.size ≤ q) 4 Q (lw_w dA lo σ' ρ) n kc ks (pc + 3) lv (.int x :: rest)) : zz p l e room_1 s m args below meth c D (fun q => s.heap.size ≤ q) 4 Q (lw_w dA lo σ ρ) n kc ks pc lv st0 := by
  refine zz_callVi (A1 := xA lo) (wc := xw dA lo σ) (w1 := xw dA lo σ') (w2 := lw_w dA lo σ' ρ) (mc := 0) (ms := 0) (host := "") (ci := 3) (T := F_SM) (N := 8) C (fs := [.ref (xa1 lo 0), .ref (xa2 lo 0), .ref (xa3 lo 0), .ref (xa4 lo 0), .ref (xa5 lo 0), .int (σ 16 0 0), .int (σ 17 0 0), .int (σ 18 0 0)]) ?_ (by rw [hy]; rfl) site hM hst hna hd hcode (fun q e h => ?_) (fun q h => Nat.le_trans hlo h.1) (fun q e h => ?_) ⟨rfl, rfl⟩ ⟨?_, ?_⟩ ⟨hk.1, hk.2⟩ hcat k
  · unfold lw_w
    rw [if_pos (by unfold xa0; omega)]
    exact xw_0 (by decide)
  · unfold lw_w
    rw [if_pos (lw_xin h).2]
    exact h
  · unfold lw_w at h ⊢
    by_cases g : q < lo + 112
    · rw [if_pos g] at h
      exact Or.inl h
    · rw [if_neg g] at h
      refine Or.inr ⟨by rw [if_neg g]; exact h, fun z => g z.2⟩
  · show K + 1 ≤ 8
    omega
  · show 8 + (maxL + 11) + 40 * K ≤ 266
    omega
theorem lw_callM (C : zC p s m args meth c b_law_law 4 R_law D dA) {y : MethodName} {bytes : ByteArray} {maxL K idx na : Nat} {As rest st0 : List Value} {x : Int32} (hlo : s.heap.size ≤ lo) (hM : mM l y bytes maxL (some .int) K D dA (lo + 112) n (.ref (ma0 (lo + 112) 0) :: As) ρ (some (.int x)) ρ') (site : zSiteV R_law idx y na) (hy : y.cls = R_MM) (hst : st0 = As.reverse ++ .ref (ma0 (lo + 112) 0) :: rest) (hna : As.length = na) (hd : decode b_law_law pc = .ok (.invokevirtual idx, 3)) (hcode : Cond.code y bytes maxL (some .int) ∈ zT) (hK : K ≤ 5 ∧ maxL ≤ 6) (hk : kc ≤ 600000 ∧ ks ≤ 7302249) (hcat : (rest.map fun v => v.category).sum ≤ 8)
    (k : zz p l e room_1 s m args below meth c D (fun q => s.heap.size ≤ q) 4 Q (lw_w dA lo σ ρ') n kc ks (pc + 3) lv (.int x :: rest)) : zz p l e room_1 s m args below meth c D (fun q => s.heap.size ≤ q) 4 Q (lw_w dA lo σ ρ) n kc ks pc lv st0 := by
  refine zz_callVi (A1 := mA (lo + 112)) (wc := mw dA (lo + 112) ρ) (w1 := mw dA (lo + 112) ρ') (w2 := lw_w dA lo σ ρ') (mc := 0) (ms := 0) (host := "") (ci := 4) (T := F_MM) (N := 16) C (fs := [.int (ρ 0 0 0), .ref (ma1 (lo + 112) 0), .ref (ma2 (lo + 112) 0), .ref (ma3 (lo + 112) 0), .ref (ma4 (lo + 112) 0), .ref (ma5 (lo + 112) 0), .ref (ma6 (lo + 112) 0), .ref (ma7 (lo + 112) 0), .ref (ma8 (lo + 112) 0), .ref (ma9 (lo + 112) 0), .ref (ma10 (lo + 112) 0), .ref (ma11 (lo + 112) 0), .ref (ma12 (lo + 112) 0), .ref (ma13 (lo + 112) 0), .ref (ma14 (lo + 112) 0), .ref (ma15 (lo + 112) 0)]) ?_ (by rw [hy]; rfl) site hM hst hna hd hcode (fun q e h => ?_) (fun q h => ?_) (fun q e h => ?_) ⟨rfl, rfl⟩ ⟨?_, ?_⟩ ⟨hk.1, hk.2⟩ hcat k
  · unfold lw_w
    rw [if_neg (by unfold ma0; omega)]
    exact mw_0 (by decide)
  · unfold lw_w
    rw [if_neg (by have := (lw_min h).1; omega)]
    exact h
  · show s.heap.size ≤ q
    have := h.1
    omega
  · unfold lw_w at h ⊢
    by_cases g : q < lo + 112
    · rw [if_pos g] at h
      refine Or.inr ⟨by rw [if_pos g]; exact h, fun z => ?_⟩
      have := z.1
      omega
    · rw [if_neg g] at h
      exact Or.inl h
  · show K + 1 ≤ 8
    omega
  · show 8 + (maxL + 11) + 40 * K ≤ 266
    omega
end LV
theorem zi_inSM : Cond.instantiable R_SM 8 ∈ zT := zt_of (i := 8) (by decide +kernel) rfl
theorem zi_inMM : Cond.instantiable R_MM 16 ∈ zT := zt_of (i := 332) (by decide +kernel) rfl
/-- what the tables say, at the law's entry -/
theorem lw_zKK {p : Program} {s : State} {m : MethodId} {meth : Method} {c : Code} {b L : Nat} {xs : Nat → Int32} (C0 : lw_At p s m meth c b L xs) : ∃ (D : va_G) (dA : Nat → ClassId), zKK D dA s := by
  obtain ⟨hx, hb, hr, hml, hown, hts, hX, hbl, hlocks, hgv⟩ := C0
  have htz : ∀ w ∈ zT, w.before #[Value.ref b] s = true := fun w hw => hts w (List.mem_filter.mp hw).1
  obtain ⟨c0, i0, k0⟩ := u_known (C := R_Ar) (T := F_Ar) (N := 5) (n := 5) htz zi_Ar (htz _ zc_Ar.2.1)
  obtain ⟨c1, i1, k1⟩ := u_known (C := R_Ce) (T := F_Ce) (N := 4) (n := 4) htz zi_Ce (htz _ zc_Ce.2.1)
  obtain ⟨c2, i2, k2⟩ := u_known (C := R_Ro) (T := F_Ro) (N := 5) (n := 5) htz zi_Ro (htz _ zc_Ro.2.1)
  obtain ⟨c3, i3, k3⟩ := u_known (C := R_SM) (T := F_SM) (N := 8) (n := 8) htz zi_SM (htz _ zi_inSM)
  obtain ⟨c4, i4, k4⟩ := u_known (C := R_MM) (T := F_MM) (N := 16) (n := 16) htz zi_MM (htz _ zi_inMM)
  obtain ⟨a0, kA0, cm0, f0, g0, h0⟩ := Cond.arrayClass_spec (htz _ za_int)
  obtain ⟨a1, kA1, cm1, f1, g1, h1⟩ := Cond.arrayClass_spec (htz _ za_bool)
  have ao2 := hts (.arrayOver (.object R_Ar)) (List.mem_append_right _ (List.mem_of_getElem? (i := 16) (by decide +kernel)))
  have ao3 := hts (.arrayOver (.object R_Ce)) (List.mem_append_right _ (List.mem_of_getElem? (i := 18) (by decide +kernel)))
  have ao4 := hts (.arrayOver (.object R_Ro)) (List.mem_append_right _ (List.mem_of_getElem? (i := 20) (by decide +kernel)))
  obtain ⟨cm2, a2, kA2, u2, -, w2, x2, y2⟩ := Cond.arrayOver_spec ao2
  obtain ⟨cm3, a3, kA3, u3, -, w3, x3, y3⟩ := Cond.arrayOver_spec ao3
  obtain ⟨cm4, a4, kA4, u4, -, w4, x4, y4⟩ := Cond.arrayOver_spec ao4
  refine ⟨(fun k => if k = 0 then c0 else if k = 1 then c1 else if k = 2 then c2 else if k = 3 then c3 else c4, fun k => if k = 0 then i0 else if k = 1 then i1 else if k = 2 then i2 else if k = 3 then i3 else i4), fun k => if k = 0 then a0 else if k = 1 then a1 else if k = 2 then a2 else if k = 3 then a3 else a4, ⟨fun k q hq => ?_, fun k q hq => ?_⟩, fun w hw => ?_, fun C hC => ?_⟩
  · match k, hq with
    | 0, hq => cases hq; exact k0
    | 1, hq => cases hq; exact k1
    | 2, hq => cases hq; exact k2
    | 3, hq => cases hq; exact k3
    | 4, hq => cases hq; exact k4
    | k + 5, hq => simp [classes] at hq
  · match k, hq with
    | 0, hq => cases hq; exact ⟨fun n z => ⟨fun k h => (by cases h), kA0, g0, cm0, h0⟩, f0⟩
    | 1, hq => cases hq; exact ⟨fun n z => ⟨fun k h => (by cases h), kA1, g1, cm1, h1⟩, f1⟩
    | 2, hq => cases hq; exact ⟨fun n z => ⟨fun k h => (by cases h), kA2, w2, cm2, x2⟩, kA2, cm2, w2, x2, u2, y2⟩
    | 3, hq => cases hq; exact ⟨fun n z => ⟨fun k h => (by cases h), kA3, w3, cm3, x3⟩, kA3, cm3, w3, x3, u3, y3⟩
    | 4, hq => cases hq; exact ⟨fun n z => ⟨fun k h => (by cases h), kA4, w4, cm4, x4⟩, kA4, cm4, w4, x4, u4, y4⟩
    | k + 5, hq => simp [zTy] at hq
  · have q1 := hts w (List.mem_filter.mp hw).1
    have q2 := (List.mem_filter.mp hw).2
    cases w <;> first | exact va_Nw.of rfl q1 | (simp [zIsN] at q2; done)
  · rcases List.mem_cons.mp hC with h | h
    · subst h; exact va_AO.of ao2
    · rcases List.mem_cons.mp h with h | h
      · subst h; exact va_AO.of ao3
      · rcases List.mem_cons.mp h with h | h
        · subst h; exact va_AO.of ao4
        · cases h
