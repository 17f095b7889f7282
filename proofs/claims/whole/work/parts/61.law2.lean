theorem lw_in {j d L : Nat} {x : Int32} (hx : x = nI d) (h : j + d < L) (hL : L ≤ 2562) : vp_in (nI j + x) L := by
  rw [hx, nI_add]
  exact vp_in_nI h (by omega)
section LC
variable {p : Program} {l : Launch} {e : Env} {s : State} {m : MethodId} {args : Array Value} {below : List Frame} {meth : Method} {c : Code} {D : va_G} {dA : Nat → ClassId} {Q : State → Prop} {n kc ks lo j b L : Nat} {xs : Nat → Int32} {σ ρ : zS}
set_option maxRecDepth 100000 in
theorem lw_case0 (C : zC p s m args meth c b_law_law 4 R_law D dA) (hX : va_X b L xs s s.heap) (hbl : b < s.heap.size) (hL : L ≤ 2562) (hj : j + 5 ≤ L) (hlo : s.heap.size ≤ lo) (hk : kc ≤ 600000 ∧ ks ≤ 7302249) (O : zOk σ ρ) (next : ∀ σ' ρ' : zS, zOk σ' ρ' → zz p l e room_1 s m args below meth c D (fun q => s.heap.size ≤ q) 4 Q (lw_w dA lo σ' ρ') n kc ks 710 [(0, .ref b), (1, .ref (xa0 lo 0)), (2, .ref (ma0 (lo + 112) 0)), (3, .int (nI j))] []) : zz p l e room_1 s m args below meth c D (fun q => s.heap.size ≤ q) 4 Q (lw_w dA lo σ ρ) n kc ks 140 [(0, .ref b), (1, .ref (xa0 lo 0)), (2, .ref (ma0 (lo + 112) 0)), (3, .int (nI j))] [] := by
  have hbA : ¬ (fun q => s.heap.size ≤ q) b := Nat.not_le.mpr hbl
  have M := l_mI O.2.2 O.1
  obtain ⟨a1, e1⟩ : ∃ v : Int32, v = xs (nI j + 1).toNatClampNeg := ⟨_, rfl⟩
  have E : zEq (xf_scope σ a1) (mf_scope ρ a1) := s_scope O
  refine zz_aload_n C d_law_law_140 rfl ?_
  refine zz_aload_n C d_law_law_141 rfl ?_
  refine zz_iload_n C d_law_law_142 rfl ?_
  refine zz_iconst (x := 1) C d_law_law_143 rfl ?_
  refine zz_iadd C d_law_law_144 ?_
  refine zz_sld C hX hbl hbA (lw_in (d := 1) rfl (by omega) hL) d_law_law_145 ?_
  rw [← e1]
  refine lw_callX (As := [.int a1]) (rest := []) C hlo (c_SM_scope (size := a1) O.1) s_law_21 rfl rfl rfl d_law_law_146 k_SM_scope ⟨by decide, by decide⟩ hk (by decide) ?_
  refine zz_aload_n C d_law_law_149 rfl ?_
  refine zz_aload_n C d_law_law_150 rfl ?_
  refine zz_iload_n C d_law_law_151 rfl ?_
  refine zz_iconst (x := 1) C d_law_law_152 rfl ?_
  refine zz_iadd C d_law_law_153 ?_
  refine zz_sld C hX hbl hbA (lw_in (d := 1) rfl (by omega) hL) d_law_law_154 ?_
  rw [← e1]
  refine lw_callM (As := [.int a1]) (rest := [.int ((xf_scope σ a1).1)]) C hlo (c_MM_scope (size := a1) M) s_law_25 rfl rfl rfl d_law_law_155 k_MM_scope ⟨by decide, by decide⟩ hk (by simp [Value.category]) ?_
  exact zz_icmp_eq (tgt := 710) C d_law_law_158 (by decide) (fun _ => next _ _ E.2) (fun q => absurd E.1.symm q)
set_option maxRecDepth 100000 in
theorem lw_case1 (C : zC p s m args meth c b_law_law 4 R_law D dA) (hX : va_X b L xs s s.heap) (hbl : b < s.heap.size) (hL : L ≤ 2562) (hj : j + 5 ≤ L) (hlo : s.heap.size ≤ lo) (hk : kc ≤ 600000 ∧ ks ≤ 7302249) (O : zOk σ ρ) (next : ∀ σ' ρ' : zS, zOk σ' ρ' → zz p l e room_1 s m args below meth c D (fun q => s.heap.size ≤ q) 4 Q (lw_w dA lo σ' ρ') n kc ks 710 [(0, .ref b), (1, .ref (xa0 lo 0)), (2, .ref (ma0 (lo + 112) 0)), (3, .int (nI j))] []) : zz p l e room_1 s m args below meth c D (fun q => s.heap.size ≤ q) 4 Q (lw_w dA lo σ ρ) n kc ks 163 [(0, .ref b), (1, .ref (xa0 lo 0)), (2, .ref (ma0 (lo + 112) 0)), (3, .int (nI j))] [] := by
  have hbA : ¬ (fun q => s.heap.size ≤ q) b := Nat.not_le.mpr hbl
  have M := l_mI O.2.2 O.1
  obtain ⟨a1, e1⟩ : ∃ v : Int32, v = xs (nI j + 1).toNatClampNeg := ⟨_, rfl⟩
  obtain ⟨a2, e2⟩ : ∃ v : Int32, v = xs (nI j + 2).toNatClampNeg := ⟨_, rfl⟩
  by_cases hb0 : a2 = 0
  · have E : zEq (xf_begin σ a1 0) (mf_begin ρ a1 0) := s_begin O (by decide)
    refine zz_aload_n C d_law_law_163 rfl ?_
    refine zz_aload_n C d_law_law_164 rfl ?_
    refine zz_iload_n C d_law_law_165 rfl ?_
    refine zz_iconst (x := 1) C d_law_law_166 rfl ?_
    refine zz_iadd C d_law_law_167 ?_
    refine zz_sld C hX hbl hbA (lw_in (d := 1) rfl (by omega) hL) d_law_law_168 ?_
    rw [← e1]
    refine zz_aload_n C d_law_law_169 rfl ?_
    refine zz_iload_n C d_law_law_170 rfl ?_
    refine zz_iconst (x := 2) C d_law_law_171 rfl ?_
    refine zz_iadd C d_law_law_172 ?_
    refine zz_sld C hX hbl hbA (lw_in (d := 2) rfl (by omega) hL) d_law_law_173 ?_
    rw [← e2]
    refine zz_if_eq (tgt := 181) C d_law_law_174 (by decide) (fun _ => ?_) (fun q => absurd hb0 q)
    refine zz_iconst (x := 0) C d_law_law_181 rfl ?_
    refine lw_callX (As := [.int a1, .int 0]) (rest := []) C hlo (c_SM_begin (t := a1) (h := 0) O.1 (by decide)) s_law_26 rfl rfl rfl d_law_law_182 k_SM_begin ⟨by decide, by decide⟩ hk (by decide) ?_
    refine zz_aload_n C d_law_law_185 rfl ?_
    refine zz_aload_n C d_law_law_186 rfl ?_
    refine zz_iload_n C d_law_law_187 rfl ?_
    refine zz_iconst (x := 1) C d_law_law_188 rfl ?_
    refine zz_iadd C d_law_law_189 ?_
    refine zz_sld C hX hbl hbA (lw_in (d := 1) rfl (by omega) hL) d_law_law_190 ?_
    rw [← e1]
    refine zz_aload_n C d_law_law_191 rfl ?_
    refine zz_iload_n C d_law_law_192 rfl ?_
    refine zz_iconst (x := 2) C d_law_law_193 rfl ?_
    refine zz_iadd C d_law_law_194 ?_
    refine zz_sld C hX hbl hbA (lw_in (d := 2) rfl (by omega) hL) d_law_law_195 ?_
    rw [← e2]
    refine zz_if_eq (tgt := 203) C d_law_law_196 (by decide) (fun _ => ?_) (fun q => absurd hb0 q)
    refine zz_iconst (x := 0) C d_law_law_203 rfl ?_
    refine lw_callM (As := [.int a1, .int 0]) (rest := [.int ((xf_begin σ a1 0).1)]) C hlo (c_MM_begin (t := a1) (h := 0)) s_law_30 rfl rfl rfl d_law_law_204 k_MM_begin ⟨by decide, by decide⟩ hk (by simp [Value.category]) ?_
    exact zz_icmp_eq (tgt := 710) C d_law_law_207 (by decide) (fun _ => next _ _ E.2) (fun q => absurd E.1.symm q)
  · have E : zEq (xf_begin σ a1 1) (mf_begin ρ a1 1) := s_begin O (by decide)
    refine zz_aload_n C d_law_law_163 rfl ?_
    refine zz_aload_n C d_law_law_164 rfl ?_
    refine zz_iload_n C d_law_law_165 rfl ?_
    refine zz_iconst (x := 1) C d_law_law_166 rfl ?_
    refine zz_iadd C d_law_law_167 ?_
    refine zz_sld C hX hbl hbA (lw_in (d := 1) rfl (by omega) hL) d_law_law_168 ?_
    rw [← e1]
    refine zz_aload_n C d_law_law_169 rfl ?_
    refine zz_iload_n C d_law_law_170 rfl ?_
    refine zz_iconst (x := 2) C d_law_law_171 rfl ?_
    refine zz_iadd C d_law_law_172 ?_
    refine zz_sld C hX hbl hbA (lw_in (d := 2) rfl (by omega) hL) d_law_law_173 ?_
    rw [← e2]
    refine zz_if_eq (tgt := 181) C d_law_law_174 (by decide) (fun q => absurd q hb0) (fun _ => ?_)
    refine zz_iconst (x := 1) C d_law_law_177 rfl ?_
    refine zz_goto (tgt := 182) C d_law_law_178 (by decide) ?_
    refine lw_callX (As := [.int a1, .int 1]) (rest := []) C hlo (c_SM_begin (t := a1) (h := 1) O.1 (by decide)) s_law_26 rfl rfl rfl d_law_law_182 k_SM_begin ⟨by decide, by decide⟩ hk (by decide) ?_
    refine zz_aload_n C d_law_law_185 rfl ?_
    refine zz_aload_n C d_law_law_186 rfl ?_
    refine zz_iload_n C d_law_law_187 rfl ?_
    refine zz_iconst (x := 1) C d_law_law_188 rfl ?_
    refine zz_iadd C d_law_law_189 ?_
    refine zz_sld C hX hbl hbA (lw_in (d := 1) rfl (by omega) hL) d_law_law_190 ?_
    rw [← e1]
    refine zz_aload_n C d_law_law_191 rfl ?_
    refine zz_iload_n C d_law_law_192 rfl ?_
    refine zz_iconst (x := 2) C d_law_law_193 rfl ?_
    refine zz_iadd C d_law_law_194 ?_
    refine zz_sld C hX hbl hbA (lw_in (d := 2) rfl (by omega) hL) d_law_law_195 ?_
    rw [← e2]
    refine zz_if_eq (tgt := 203) C d_law_law_196 (by decide) (fun q => absurd q hb0) (fun _ => ?_)
    refine zz_iconst (x := 1) C d_law_law_199 rfl ?_
    refine zz_goto (tgt := 204) C d_law_law_200 (by decide) ?_
    refine lw_callM (As := [.int a1, .int 1]) (rest := [.int ((xf_begin σ a1 1).1)]) C hlo (c_MM_begin (t := a1) (h := 1)) s_law_30 rfl rfl rfl d_law_law_204 k_MM_begin ⟨by decide, by decide⟩ hk (by simp [Value.category]) ?_
    exact zz_icmp_eq (tgt := 710) C d_law_law_207 (by decide) (fun _ => next _ _ E.2) (fun q => absurd E.1.symm q)
set_option maxRecDepth 100000 in
theorem lw_case2 (C : zC p s m args meth c b_law_law 4 R_law D dA) (hX : va_X b L xs s s.heap) (hbl : b < s.heap.size) (hL : L ≤ 2562) (hj : j + 5 ≤ L) (hlo : s.heap.size ≤ lo) (hk : kc ≤ 600000 ∧ ks ≤ 7302249) (O : zOk σ ρ) (next : ∀ σ' ρ' : zS, zOk σ' ρ' → zz p l e room_1 s m args below meth c D (fun q => s.heap.size ≤ q) 4 Q (lw_w dA lo σ' ρ') n kc ks 710 [(0, .ref b), (1, .ref (xa0 lo 0)), (2, .ref (ma0 (lo + 112) 0)), (3, .int (nI j))] []) : zz p l e room_1 s m args below meth c D (fun q => s.heap.size ≤ q) 4 Q (lw_w dA lo σ ρ) n kc ks 212 [(0, .ref b), (1, .ref (xa0 lo 0)), (2, .ref (ma0 (lo + 112) 0)), (3, .int (nI j))] [] := by
  have hbA : ¬ (fun q => s.heap.size ≤ q) b := Nat.not_le.mpr hbl
  have M := l_mI O.2.2 O.1
  obtain ⟨a1, e1⟩ : ∃ v : Int32, v = xs (nI j + 1).toNatClampNeg := ⟨_, rfl⟩
  obtain ⟨a2, e2⟩ : ∃ v : Int32, v = xs (nI j + 2).toNatClampNeg := ⟨_, rfl⟩
  have E : zEq (xf_enter σ a1 a2) (mf_enter ρ a1 a2) := s_enter O
  refine zz_aload_n C d_law_law_212 rfl ?_
  refine zz_aload_n C d_law_law_213 rfl ?_
  refine zz_iload_n C d_law_law_214 rfl ?_
  refine zz_iconst (x := 1) C d_law_law_215 rfl ?_
  refine zz_iadd C d_law_law_216 ?_
  refine zz_sld C hX hbl hbA (lw_in (d := 1) rfl (by omega) hL) d_law_law_217 ?_
  rw [← e1]
  refine zz_aload_n C d_law_law_218 rfl ?_
  refine zz_iload_n C d_law_law_219 rfl ?_
  refine zz_iconst (x := 2) C d_law_law_220 rfl ?_
  refine zz_iadd C d_law_law_221 ?_
  refine zz_sld C hX hbl hbA (lw_in (d := 2) rfl (by omega) hL) d_law_law_222 ?_
  rw [← e2]
  refine lw_callX (As := [.int a1, .int a2]) (rest := []) C hlo (c_SM_enter (t := a1) (z := a2) O.1) s_law_31 rfl rfl rfl d_law_law_223 k_SM_enter ⟨by decide, by decide⟩ hk (by decide) ?_
  refine zz_aload_n C d_law_law_226 rfl ?_
  refine zz_aload_n C d_law_law_227 rfl ?_
  refine zz_iload_n C d_law_law_228 rfl ?_
  refine zz_iconst (x := 1) C d_law_law_229 rfl ?_
  refine zz_iadd C d_law_law_230 ?_
  refine zz_sld C hX hbl hbA (lw_in (d := 1) rfl (by omega) hL) d_law_law_231 ?_
  rw [← e1]
  refine zz_aload_n C d_law_law_232 rfl ?_
  refine zz_iload_n C d_law_law_233 rfl ?_
  refine zz_iconst (x := 2) C d_law_law_234 rfl ?_
  refine zz_iadd C d_law_law_235 ?_
  refine zz_sld C hX hbl hbA (lw_in (d := 2) rfl (by omega) hL) d_law_law_236 ?_
  rw [← e2]
  refine lw_callM (As := [.int a1, .int a2]) (rest := [.int ((xf_enter σ a1 a2).1)]) C hlo (c_MM_enter (t := a1) (z := a2) M) s_law_35 rfl rfl rfl d_law_law_237 k_MM_enter ⟨by decide, by decide⟩ hk (by simp [Value.category]) ?_
  exact zz_icmp_eq (tgt := 710) C d_law_law_240 (by decide) (fun _ => next _ _ E.2) (fun q => absurd E.1.symm q)
set_option maxRecDepth 100000 in
theorem lw_case3 (C : zC p s m args meth c b_law_law 4 R_law D dA) (hX : va_X b L xs s s.heap) (hbl : b < s.heap.size) (hL : L ≤ 2562) (hj : j + 5 ≤ L) (hlo : s.heap.size ≤ lo) (hk : kc ≤ 600000 ∧ ks ≤ 7302249) (O : zOk σ ρ) (next : ∀ σ' ρ' : zS, zOk σ' ρ' → zz p l e room_1 s m args below meth c D (fun q => s.heap.size ≤ q) 4 Q (lw_w dA lo σ' ρ') n kc ks 710 [(0, .ref b), (1, .ref (xa0 lo 0)), (2, .ref (ma0 (lo + 112) 0)), (3, .int (nI j))] []) : zz p l e room_1 s m args below meth c D (fun q => s.heap.size ≤ q) 4 Q (lw_w dA lo σ ρ) n kc ks 245 [(0, .ref b), (1, .ref (xa0 lo 0)), (2, .ref (ma0 (lo + 112) 0)), (3, .int (nI j))] [] := by
  have hbA : ¬ (fun q => s.heap.size ≤ q) b := Nat.not_le.mpr hbl
  have M := l_mI O.2.2 O.1
  obtain ⟨a1, e1⟩ : ∃ v : Int32, v = xs (nI j + 1).toNatClampNeg := ⟨_, rfl⟩
  obtain ⟨a2, e2⟩ : ∃ v : Int32, v = xs (nI j + 2).toNatClampNeg := ⟨_, rfl⟩
  have E : zEq (xf_turn σ a1 a2) (mf_turn ρ a1 a2) := s_turn O
  refine zz_aload_n C d_law_law_245 rfl ?_
  refine zz_aload_n C d_law_law_246 rfl ?_
  refine zz_iload_n C d_law_law_247 rfl ?_
  refine zz_iconst (x := 1) C d_law_law_248 rfl ?_
  refine zz_iadd C d_law_law_249 ?_
  refine zz_sld C hX hbl hbA (lw_in (d := 1) rfl (by omega) hL) d_law_law_250 ?_
  rw [← e1]
  refine zz_aload_n C d_law_law_251 rfl ?_
  refine zz_iload_n C d_law_law_252 rfl ?_
  refine zz_iconst (x := 2) C d_law_law_253 rfl ?_
  refine zz_iadd C d_law_law_254 ?_
  refine zz_sld C hX hbl hbA (lw_in (d := 2) rfl (by omega) hL) d_law_law_255 ?_
  rw [← e2]
  refine lw_callX (As := [.int a1, .int a2]) (rest := []) C hlo (c_SM_turn (t := a1) (a := a2) O.1) s_law_36 rfl rfl rfl d_law_law_256 k_SM_turn ⟨by decide, by decide⟩ hk (by decide) ?_
  refine zz_aload_n C d_law_law_259 rfl ?_
  refine zz_aload_n C d_law_law_260 rfl ?_
  refine zz_iload_n C d_law_law_261 rfl ?_
  refine zz_iconst (x := 1) C d_law_law_262 rfl ?_
  refine zz_iadd C d_law_law_263 ?_
  refine zz_sld C hX hbl hbA (lw_in (d := 1) rfl (by omega) hL) d_law_law_264 ?_
  rw [← e1]
  refine zz_aload_n C d_law_law_265 rfl ?_
  refine zz_iload_n C d_law_law_266 rfl ?_
  refine zz_iconst (x := 2) C d_law_law_267 rfl ?_
  refine zz_iadd C d_law_law_268 ?_
  refine zz_sld C hX hbl hbA (lw_in (d := 2) rfl (by omega) hL) d_law_law_269 ?_
  rw [← e2]
  refine lw_callM (As := [.int a1, .int a2]) (rest := [.int ((xf_turn σ a1 a2).1)]) C hlo (c_MM_turn (t := a1) (a := a2) M) s_law_39 rfl rfl rfl d_law_law_270 k_MM_turn ⟨by decide, by decide⟩ hk (by simp [Value.category]) ?_
  exact zz_icmp_eq (tgt := 710) C d_law_law_273 (by decide) (fun _ => next _ _ E.2) (fun q => absurd E.1.symm q)
set_option maxRecDepth 100000 in
theorem lw_case4 (C : zC p s m args meth c b_law_law 4 R_law D dA) (hX : va_X b L xs s s.heap) (hbl : b < s.heap.size) (hL : L ≤ 2562) (hj : j + 5 ≤ L) (hlo : s.heap.size ≤ lo) (hk : kc ≤ 600000 ∧ ks ≤ 7302249) (O : zOk σ ρ) (next : ∀ σ' ρ' : zS, zOk σ' ρ' → zz p l e room_1 s m args below meth c D (fun q => s.heap.size ≤ q) 4 Q (lw_w dA lo σ' ρ') n kc ks 710 [(0, .ref b), (1, .ref (xa0 lo 0)), (2, .ref (ma0 (lo + 112) 0)), (3, .int (nI j))] []) : zz p l e room_1 s m args below meth c D (fun q => s.heap.size ≤ q) 4 Q (lw_w dA lo σ ρ) n kc ks 278 [(0, .ref b), (1, .ref (xa0 lo 0)), (2, .ref (ma0 (lo + 112) 0)), (3, .int (nI j))] [] := by
  have hbA : ¬ (fun q => s.heap.size ≤ q) b := Nat.not_le.mpr hbl
  have M := l_mI O.2.2 O.1
  obtain ⟨a1, e1⟩ : ∃ v : Int32, v = xs (nI j + 1).toNatClampNeg := ⟨_, rfl⟩
  have E : zEq (xf_leave σ a1) (mf_leave ρ a1) := s_leave O
  refine zz_aload_n C d_law_law_278 rfl ?_
  refine zz_aload_n C d_law_law_279 rfl ?_
  refine zz_iload_n C d_law_law_280 rfl ?_
  refine zz_iconst (x := 1) C d_law_law_281 rfl ?_
  refine zz_iadd C d_law_law_282 ?_
  refine zz_sld C hX hbl hbA (lw_in (d := 1) rfl (by omega) hL) d_law_law_283 ?_
  rw [← e1]
  refine lw_callX (As := [.int a1]) (rest := []) C hlo (c_SM_leave (t := a1) O.1) s_law_40 rfl rfl rfl d_law_law_284 k_SM_leave ⟨by decide, by decide⟩ hk (by decide) ?_
  refine zz_aload_n C d_law_law_287 rfl ?_
  refine zz_aload_n C d_law_law_288 rfl ?_
  refine zz_iload_n C d_law_law_289 rfl ?_
  refine zz_iconst (x := 1) C d_law_law_290 rfl ?_
  refine zz_iadd C d_law_law_291 ?_
  refine zz_sld C hX hbl hbA (lw_in (d := 1) rfl (by omega) hL) d_law_law_292 ?_
  rw [← e1]
  refine lw_callM (As := [.int a1]) (rest := [.int ((xf_leave σ a1).1)]) C hlo (c_MM_leave (t := a1) M) s_law_43 rfl rfl rfl d_law_law_293 k_MM_leave ⟨by decide, by decide⟩ hk (by simp [Value.category]) ?_
  exact zz_icmp_eq (tgt := 710) C d_law_law_296 (by decide) (fun _ => next _ _ E.2) (fun q => absurd E.1.symm q)
set_option maxRecDepth 100000 in
theorem lw_case5 (C : zC p s m args meth c b_law_law 4 R_law D dA) (hX : va_X b L xs s s.heap) (hbl : b < s.heap.size) (hL : L ≤ 2562) (hj : j + 5 ≤ L) (hlo : s.heap.size ≤ lo) (hk : kc ≤ 600000 ∧ ks ≤ 7302249) (O : zOk σ ρ) (next : ∀ σ' ρ' : zS, zOk σ' ρ' → zz p l e room_1 s m args below meth c D (fun q => s.heap.size ≤ q) 4 Q (lw_w dA lo σ' ρ') n kc ks 710 [(0, .ref b), (1, .ref (xa0 lo 0)), (2, .ref (ma0 (lo + 112) 0)), (3, .int (nI j))] []) : zz p l e room_1 s m args below meth c D (fun q => s.heap.size ≤ q) 4 Q (lw_w dA lo σ ρ) n kc ks 301 [(0, .ref b), (1, .ref (xa0 lo 0)), (2, .ref (ma0 (lo + 112) 0)), (3, .int (nI j))] [] := by
  have hbA : ¬ (fun q => s.heap.size ≤ q) b := Nat.not_le.mpr hbl
  have M := l_mI O.2.2 O.1
  obtain ⟨a1, e1⟩ : ∃ v : Int32, v = xs (nI j + 1).toNatClampNeg := ⟨_, rfl⟩
  obtain ⟨a2, e2⟩ : ∃ v : Int32, v = xs (nI j + 2).toNatClampNeg := ⟨_, rfl⟩
  have E : zEq (xf_make σ a1 a2) (mf_make ρ a1 a2) := s_make O
  generalize hm : mf_make ρ a1 a2 = qm at E
  obtain ⟨rm, τm⟩ := qm
  refine zz_aload_n C d_law_law_301 rfl ?_
  refine zz_aload_n C d_law_law_302 rfl ?_
  refine zz_iload_n C d_law_law_303 rfl ?_
  refine zz_iconst (x := 1) C d_law_law_304 rfl ?_
  refine zz_iadd C d_law_law_305 ?_
  refine zz_sld C hX hbl hbA (lw_in (d := 1) rfl (by omega) hL) d_law_law_306 ?_
  rw [← e1]
  refine zz_aload_n C d_law_law_307 rfl ?_
  refine zz_iload_n C d_law_law_308 rfl ?_
  refine zz_iconst (x := 2) C d_law_law_309 rfl ?_
  refine zz_iadd C d_law_law_310 ?_
  refine zz_sld C hX hbl hbA (lw_in (d := 2) rfl (by omega) hL) d_law_law_311 ?_
  rw [← e2]
  refine lw_callX (As := [.int a1, .int a2]) (rest := []) C hlo (c_SM_make (t := a1) (f := a2) O.1) s_law_44 rfl rfl rfl d_law_law_312 k_SM_make ⟨by decide, by decide⟩ hk (by decide) ?_
  refine zz_aload_n C d_law_law_315 rfl ?_
  refine zz_aload_n C d_law_law_316 rfl ?_
  refine zz_iload_n C d_law_law_317 rfl ?_
  refine zz_iconst (x := 1) C d_law_law_318 rfl ?_
  refine zz_iadd C d_law_law_319 ?_
  refine zz_sld C hX hbl hbA (lw_in (d := 1) rfl (by omega) hL) d_law_law_320 ?_
  rw [← e1]
  refine zz_aload_n C d_law_law_321 rfl ?_
  refine zz_iload_n C d_law_law_322 rfl ?_
  refine zz_iconst (x := 2) C d_law_law_323 rfl ?_
  refine zz_iadd C d_law_law_324 ?_
  refine zz_sld C hX hbl hbA (lw_in (d := 2) rfl (by omega) hL) d_law_law_325 ?_
  rw [← e2]
  refine lw_callM (As := [.int a1, .int a2]) (rest := [.int ((xf_make σ a1 a2).1)]) C hlo (c_MM_make (t := a1) (f := a2) M hm) s_law_47 rfl rfl rfl d_law_law_326 k_MM_make ⟨by decide, by decide⟩ hk (by simp [Value.category]) ?_
  exact zz_icmp_eq (tgt := 710) C d_law_law_329 (by decide) (fun _ => next _ _ E.2) (fun q => absurd E.1.symm q)
set_option maxRecDepth 100000 in
theorem lw_case6 (C : zC p s m args meth c b_law_law 4 R_law D dA) (hX : va_X b L xs s s.heap) (hbl : b < s.heap.size) (hL : L ≤ 2562) (hj : j + 5 ≤ L) (hlo : s.heap.size ≤ lo) (hk : kc ≤ 600000 ∧ ks ≤ 7302249) (O : zOk σ ρ) (next : ∀ σ' ρ' : zS, zOk σ' ρ' → zz p l e room_1 s m args below meth c D (fun q => s.heap.size ≤ q) 4 Q (lw_w dA lo σ' ρ') n kc ks 710 [(0, .ref b), (1, .ref (xa0 lo 0)), (2, .ref (ma0 (lo + 112) 0)), (3, .int (nI j))] []) : zz p l e room_1 s m args below meth c D (fun q => s.heap.size ≤ q) 4 Q (lw_w dA lo σ ρ) n kc ks 334 [(0, .ref b), (1, .ref (xa0 lo 0)), (2, .ref (ma0 (lo + 112) 0)), (3, .int (nI j))] [] := by
  have hbA : ¬ (fun q => s.heap.size ≤ q) b := Nat.not_le.mpr hbl
  have M := l_mI O.2.2 O.1
  obtain ⟨a1, e1⟩ : ∃ v : Int32, v = xs (nI j + 1).toNatClampNeg := ⟨_, rfl⟩
  obtain ⟨a2, e2⟩ : ∃ v : Int32, v = xs (nI j + 2).toNatClampNeg := ⟨_, rfl⟩
  obtain ⟨a3, e3⟩ : ∃ v : Int32, v = xs (nI j + 3).toNatClampNeg := ⟨_, rfl⟩
  obtain ⟨a4, e4⟩ : ∃ v : Int32, v = xs (nI j + 4).toNatClampNeg := ⟨_, rfl⟩
  have E : zEq (xf_put σ a1 a2 a3 a4) (mf_put ρ a1 a2 a3 a4) := s_put O
  refine zz_aload_n C d_law_law_334 rfl ?_
  refine zz_aload_n C d_law_law_335 rfl ?_
  refine zz_iload_n C d_law_law_336 rfl ?_
  refine zz_iconst (x := 1) C d_law_law_337 rfl ?_
  refine zz_iadd C d_law_law_338 ?_
  refine zz_sld C hX hbl hbA (lw_in (d := 1) rfl (by omega) hL) d_law_law_339 ?_
  rw [← e1]
  refine zz_aload_n C d_law_law_340 rfl ?_
  refine zz_iload_n C d_law_law_341 rfl ?_
  refine zz_iconst (x := 2) C d_law_law_342 rfl ?_
  refine zz_iadd C d_law_law_343 ?_
  refine zz_sld C hX hbl hbA (lw_in (d := 2) rfl (by omega) hL) d_law_law_344 ?_
  rw [← e2]
  refine zz_aload_n C d_law_law_345 rfl ?_
  refine zz_iload_n C d_law_law_346 rfl ?_
  refine zz_iconst (x := 3) C d_law_law_347 rfl ?_
  refine zz_iadd C d_law_law_348 ?_
  refine zz_sld C hX hbl hbA (lw_in (d := 3) rfl (by omega) hL) d_law_law_349 ?_
  rw [← e3]
  refine zz_aload_n C d_law_law_350 rfl ?_
  refine zz_iload_n C d_law_law_351 rfl ?_
  refine zz_iconst (x := 4) C d_law_law_352 rfl ?_
  refine zz_iadd C d_law_law_353 ?_
  refine zz_sld C hX hbl hbA (lw_in (d := 4) rfl (by omega) hL) d_law_law_354 ?_
  rw [← e4]
  refine lw_callX (As := [.int a1, .int a2, .int a3, .int a4]) (rest := []) C hlo (c_SM_put (t := a1) (o := a2) (f := a3) (g := a4) O.1) s_law_48 rfl rfl rfl d_law_law_355 k_SM_put ⟨by decide, by decide⟩ hk (by decide) ?_
  refine zz_aload_n C d_law_law_358 rfl ?_
  refine zz_aload_n C d_law_law_359 rfl ?_
  refine zz_iload_n C d_law_law_360 rfl ?_
  refine zz_iconst (x := 1) C d_law_law_361 rfl ?_
  refine zz_iadd C d_law_law_362 ?_
  refine zz_sld C hX hbl hbA (lw_in (d := 1) rfl (by omega) hL) d_law_law_363 ?_
  rw [← e1]
  refine zz_aload_n C d_law_law_364 rfl ?_
  refine zz_iload_n C d_law_law_365 rfl ?_
  refine zz_iconst (x := 2) C d_law_law_366 rfl ?_
  refine zz_iadd C d_law_law_367 ?_
  refine zz_sld C hX hbl hbA (lw_in (d := 2) rfl (by omega) hL) d_law_law_368 ?_
  rw [← e2]
  refine zz_aload_n C d_law_law_369 rfl ?_
  refine zz_iload_n C d_law_law_370 rfl ?_
  refine zz_iconst (x := 3) C d_law_law_371 rfl ?_
  refine zz_iadd C d_law_law_372 ?_
  refine zz_sld C hX hbl hbA (lw_in (d := 3) rfl (by omega) hL) d_law_law_373 ?_
  rw [← e3]
  refine zz_aload_n C d_law_law_374 rfl ?_
  refine zz_iload_n C d_law_law_375 rfl ?_
  refine zz_iconst (x := 4) C d_law_law_376 rfl ?_
  refine zz_iadd C d_law_law_377 ?_
  refine zz_sld C hX hbl hbA (lw_in (d := 4) rfl (by omega) hL) d_law_law_378 ?_
  rw [← e4]
  refine lw_callM (As := [.int a1, .int a2, .int a3, .int a4]) (rest := [.int ((xf_put σ a1 a2 a3 a4).1)]) C hlo (c_MM_put (t := a1) (o := a2) (f := a3) (g := a4) M) s_law_52 rfl rfl rfl d_law_law_379 k_MM_put ⟨by decide, by decide⟩ hk (by simp [Value.category]) ?_
  exact zz_icmp_eq (tgt := 710) C d_law_law_382 (by decide) (fun _ => next _ _ E.2) (fun q => absurd E.1.symm q)
set_option maxRecDepth 100000 in
theorem lw_case7 (C : zC p s m args meth c b_law_law 4 R_law D dA) (hX : va_X b L xs s s.heap) (hbl : b < s.heap.size) (hL : L ≤ 2562) (hj : j + 5 ≤ L) (hlo : s.heap.size ≤ lo) (hk : kc ≤ 600000 ∧ ks ≤ 7302249) (O : zOk σ ρ) (next : ∀ σ' ρ' : zS, zOk σ' ρ' → zz p l e room_1 s m args below meth c D (fun q => s.heap.size ≤ q) 4 Q (lw_w dA lo σ' ρ') n kc ks 710 [(0, .ref b), (1, .ref (xa0 lo 0)), (2, .ref (ma0 (lo + 112) 0)), (3, .int (nI j))] []) : zz p l e room_1 s m args below meth c D (fun q => s.heap.size ≤ q) 4 Q (lw_w dA lo σ ρ) n kc ks 387 [(0, .ref b), (1, .ref (xa0 lo 0)), (2, .ref (ma0 (lo + 112) 0)), (3, .int (nI j))] [] := by
  have hbA : ¬ (fun q => s.heap.size ≤ q) b := Nat.not_le.mpr hbl
  have M := l_mI O.2.2 O.1
  obtain ⟨a1, e1⟩ : ∃ v : Int32, v = xs (nI j + 1).toNatClampNeg := ⟨_, rfl⟩
  obtain ⟨a2, e2⟩ : ∃ v : Int32, v = xs (nI j + 2).toNatClampNeg := ⟨_, rfl⟩
  obtain ⟨a3, e3⟩ : ∃ v : Int32, v = xs (nI j + 3).toNatClampNeg := ⟨_, rfl⟩
  have E : mf_get ρ a1 a2 a3 = xf_get σ a1 a2 a3 := e_get O.2.2 O.1
  refine zz_aload_n C d_law_law_387 rfl ?_
  refine zz_aload_n C d_law_law_388 rfl ?_
  refine zz_iload_n C d_law_law_389 rfl ?_
  refine zz_iconst (x := 1) C d_law_law_390 rfl ?_
  refine zz_iadd C d_law_law_391 ?_
  refine zz_sld C hX hbl hbA (lw_in (d := 1) rfl (by omega) hL) d_law_law_392 ?_
  rw [← e1]
  refine zz_aload_n C d_law_law_393 rfl ?_
  refine zz_iload_n C d_law_law_394 rfl ?_
  refine zz_iconst (x := 2) C d_law_law_395 rfl ?_
  refine zz_iadd C d_law_law_396 ?_
  refine zz_sld C hX hbl hbA (lw_in (d := 2) rfl (by omega) hL) d_law_law_397 ?_
  rw [← e2]
  refine zz_aload_n C d_law_law_398 rfl ?_
  refine zz_iload_n C d_law_law_399 rfl ?_
  refine zz_iconst (x := 3) C d_law_law_400 rfl ?_
  refine zz_iadd C d_law_law_401 ?_
  refine zz_sld C hX hbl hbA (lw_in (d := 3) rfl (by omega) hL) d_law_law_402 ?_
  rw [← e3]
  refine lw_callX (As := [.int a1, .int a2, .int a3]) (rest := []) C hlo (c_SM_get (t := a1) (o := a2) (f := a3) O.1) s_law_53 rfl rfl rfl d_law_law_403 k_SM_get ⟨by decide, by decide⟩ hk (by decide) ?_
  refine zz_aload_n C d_law_law_406 rfl ?_
  refine zz_aload_n C d_law_law_407 rfl ?_
  refine zz_iload_n C d_law_law_408 rfl ?_
  refine zz_iconst (x := 1) C d_law_law_409 rfl ?_
  refine zz_iadd C d_law_law_410 ?_
  refine zz_sld C hX hbl hbA (lw_in (d := 1) rfl (by omega) hL) d_law_law_411 ?_
  rw [← e1]
  refine zz_aload_n C d_law_law_412 rfl ?_
  refine zz_iload_n C d_law_law_413 rfl ?_
  refine zz_iconst (x := 2) C d_law_law_414 rfl ?_
  refine zz_iadd C d_law_law_415 ?_
  refine zz_sld C hX hbl hbA (lw_in (d := 2) rfl (by omega) hL) d_law_law_416 ?_
  rw [← e2]
  refine zz_aload_n C d_law_law_417 rfl ?_
  refine zz_iload_n C d_law_law_418 rfl ?_
  refine zz_iconst (x := 3) C d_law_law_419 rfl ?_
  refine zz_iadd C d_law_law_420 ?_
  refine zz_sld C hX hbl hbA (lw_in (d := 3) rfl (by omega) hL) d_law_law_421 ?_
  rw [← e3]
  refine lw_callM (As := [.int a1, .int a2, .int a3]) (rest := [.int (xf_get σ a1 a2 a3)]) C hlo (c_MM_get (t := a1) (o := a2) (f := a3) M) s_law_57 rfl rfl rfl d_law_law_422 k_MM_get ⟨by decide, by decide⟩ hk (by simp [Value.category]) ?_
  exact zz_icmp_eq (tgt := 710) C d_law_law_425 (by decide) (fun _ => next _ _ O) (fun q => absurd E.symm q)
set_option maxRecDepth 100000 in
theorem lw_case8 (C : zC p s m args meth c b_law_law 4 R_law D dA) (hX : va_X b L xs s s.heap) (hbl : b < s.heap.size) (hL : L ≤ 2562) (hj : j + 5 ≤ L) (hlo : s.heap.size ≤ lo) (hk : kc ≤ 600000 ∧ ks ≤ 7302249) (O : zOk σ ρ) (next : ∀ σ' ρ' : zS, zOk σ' ρ' → zz p l e room_1 s m args below meth c D (fun q => s.heap.size ≤ q) 4 Q (lw_w dA lo σ' ρ') n kc ks 710 [(0, .ref b), (1, .ref (xa0 lo 0)), (2, .ref (ma0 (lo + 112) 0)), (3, .int (nI j))] []) : zz p l e room_1 s m args below meth c D (fun q => s.heap.size ≤ q) 4 Q (lw_w dA lo σ ρ) n kc ks 430 [(0, .ref b), (1, .ref (xa0 lo 0)), (2, .ref (ma0 (lo + 112) 0)), (3, .int (nI j))] [] := by
  have hbA : ¬ (fun q => s.heap.size ≤ q) b := Nat.not_le.mpr hbl
  have M := l_mI O.2.2 O.1
  obtain ⟨a1, e1⟩ : ∃ v : Int32, v = xs (nI j + 1).toNatClampNeg := ⟨_, rfl⟩
  obtain ⟨a2, e2⟩ : ∃ v : Int32, v = xs (nI j + 2).toNatClampNeg := ⟨_, rfl⟩
  obtain ⟨a3, e3⟩ : ∃ v : Int32, v = xs (nI j + 3).toNatClampNeg := ⟨_, rfl⟩
  have E : zEq (xf_hang σ a1 a2 a3) (mf_hang ρ a1 a2 a3) := s_hang O
  refine zz_aload_n C d_law_law_430 rfl ?_
  refine zz_aload_n C d_law_law_431 rfl ?_
  refine zz_iload_n C d_law_law_432 rfl ?_
  refine zz_iconst (x := 1) C d_law_law_433 rfl ?_
  refine zz_iadd C d_law_law_434 ?_
  refine zz_sld C hX hbl hbA (lw_in (d := 1) rfl (by omega) hL) d_law_law_435 ?_
  rw [← e1]
  refine zz_aload_n C d_law_law_436 rfl ?_
  refine zz_iload_n C d_law_law_437 rfl ?_
  refine zz_iconst (x := 2) C d_law_law_438 rfl ?_
  refine zz_iadd C d_law_law_439 ?_
  refine zz_sld C hX hbl hbA (lw_in (d := 2) rfl (by omega) hL) d_law_law_440 ?_
  rw [← e2]
  refine zz_aload_n C d_law_law_441 rfl ?_
  refine zz_iload_n C d_law_law_442 rfl ?_
  refine zz_iconst (x := 3) C d_law_law_443 rfl ?_
  refine zz_iadd C d_law_law_444 ?_
  refine zz_sld C hX hbl hbA (lw_in (d := 3) rfl (by omega) hL) d_law_law_445 ?_
  rw [← e3]
  refine lw_callX (As := [.int a1, .int a2, .int a3]) (rest := []) C hlo (c_SM_hang (t := a1) (z := a2) (o := a3) O.1) s_law_58 rfl rfl rfl d_law_law_446 k_SM_hang ⟨by decide, by decide⟩ hk (by decide) ?_
  refine zz_aload_n C d_law_law_449 rfl ?_
  refine zz_aload_n C d_law_law_450 rfl ?_
  refine zz_iload_n C d_law_law_451 rfl ?_
  refine zz_iconst (x := 1) C d_law_law_452 rfl ?_
  refine zz_iadd C d_law_law_453 ?_
  refine zz_sld C hX hbl hbA (lw_in (d := 1) rfl (by omega) hL) d_law_law_454 ?_
  rw [← e1]
  refine zz_aload_n C d_law_law_455 rfl ?_
  refine zz_iload_n C d_law_law_456 rfl ?_
  refine zz_iconst (x := 2) C d_law_law_457 rfl ?_
  refine zz_iadd C d_law_law_458 ?_
  refine zz_sld C hX hbl hbA (lw_in (d := 2) rfl (by omega) hL) d_law_law_459 ?_
  rw [← e2]
  refine zz_aload_n C d_law_law_460 rfl ?_
  refine zz_iload_n C d_law_law_461 rfl ?_
  refine zz_iconst (x := 3) C d_law_law_462 rfl ?_
  refine zz_iadd C d_law_law_463 ?_
  refine zz_sld C hX hbl hbA (lw_in (d := 3) rfl (by omega) hL) d_law_law_464 ?_
  rw [← e3]
  refine lw_callM (As := [.int a1, .int a2, .int a3]) (rest := [.int ((xf_hang σ a1 a2 a3).1)]) C hlo (c_MM_hang (t := a1) (z := a2) (o := a3) M) s_law_61 rfl rfl rfl d_law_law_465 k_MM_hang ⟨by decide, by decide⟩ hk (by simp [Value.category]) ?_
  exact zz_icmp_eq (tgt := 710) C d_law_law_468 (by decide) (fun _ => next _ _ E.2) (fun q => absurd E.1.symm q)
set_option maxRecDepth 100000 in
theorem lw_case9 (C : zC p s m args meth c b_law_law 4 R_law D dA) (hX : va_X b L xs s s.heap) (hbl : b < s.heap.size) (hL : L ≤ 2562) (hj : j + 5 ≤ L) (hlo : s.heap.size ≤ lo) (hk : kc ≤ 600000 ∧ ks ≤ 7302249) (O : zOk σ ρ) (next : ∀ σ' ρ' : zS, zOk σ' ρ' → zz p l e room_1 s m args below meth c D (fun q => s.heap.size ≤ q) 4 Q (lw_w dA lo σ' ρ') n kc ks 710 [(0, .ref b), (1, .ref (xa0 lo 0)), (2, .ref (ma0 (lo + 112) 0)), (3, .int (nI j))] []) : zz p l e room_1 s m args below meth c D (fun q => s.heap.size ≤ q) 4 Q (lw_w dA lo σ ρ) n kc ks 473 [(0, .ref b), (1, .ref (xa0 lo 0)), (2, .ref (ma0 (lo + 112) 0)), (3, .int (nI j))] [] := by
  have hbA : ¬ (fun q => s.heap.size ≤ q) b := Nat.not_le.mpr hbl
  have M := l_mI O.2.2 O.1
  obtain ⟨a1, e1⟩ : ∃ v : Int32, v = xs (nI j + 1).toNatClampNeg := ⟨_, rfl⟩
  obtain ⟨a2, e2⟩ : ∃ v : Int32, v = xs (nI j + 2).toNatClampNeg := ⟨_, rfl⟩
  have E : mf_portal ρ a1 a2 = xf_portal σ a1 a2 := e_portal O.2.2 O.1 O.2.1.2.2.2.2.2.2.2.2.1
  refine zz_aload_n C d_law_law_473 rfl ?_
  refine zz_aload_n C d_law_law_474 rfl ?_
  refine zz_iload_n C d_law_law_475 rfl ?_
  refine zz_iconst (x := 1) C d_law_law_476 rfl ?_
  refine zz_iadd C d_law_law_477 ?_
  refine zz_sld C hX hbl hbA (lw_in (d := 1) rfl (by omega) hL) d_law_law_478 ?_
  rw [← e1]
  refine zz_aload_n C d_law_law_479 rfl ?_
  refine zz_iload_n C d_law_law_480 rfl ?_
  refine zz_iconst (x := 2) C d_law_law_481 rfl ?_
  refine zz_iadd C d_law_law_482 ?_
  refine zz_sld C hX hbl hbA (lw_in (d := 2) rfl (by omega) hL) d_law_law_483 ?_
  rw [← e2]
  refine lw_callX (As := [.int a1, .int a2]) (rest := []) C hlo (c_SM_portal (t := a1) (z := a2) O.1) s_law_62 rfl rfl rfl d_law_law_484 k_SM_portal ⟨by decide, by decide⟩ hk (by decide) ?_
  refine zz_aload_n C d_law_law_487 rfl ?_
  refine zz_aload_n C d_law_law_488 rfl ?_
  refine zz_iload_n C d_law_law_489 rfl ?_
  refine zz_iconst (x := 1) C d_law_law_490 rfl ?_
  refine zz_iadd C d_law_law_491 ?_
  refine zz_sld C hX hbl hbA (lw_in (d := 1) rfl (by omega) hL) d_law_law_492 ?_
  rw [← e1]
  refine zz_aload_n C d_law_law_493 rfl ?_
  refine zz_iload_n C d_law_law_494 rfl ?_
  refine zz_iconst (x := 2) C d_law_law_495 rfl ?_
  refine zz_iadd C d_law_law_496 ?_
  refine zz_sld C hX hbl hbA (lw_in (d := 2) rfl (by omega) hL) d_law_law_497 ?_
  rw [← e2]
  refine lw_callM (As := [.int a1, .int a2]) (rest := [.int (xf_portal σ a1 a2)]) C hlo (c_MM_portal (t := a1) (z := a2) M) s_law_65 rfl rfl rfl d_law_law_498 k_MM_portal ⟨by decide, by decide⟩ hk (by simp [Value.category]) ?_
  exact zz_icmp_eq (tgt := 710) C d_law_law_501 (by decide) (fun _ => next _ _ O) (fun q => absurd E.symm q)
set_option maxRecDepth 100000 in
theorem lw_case10 (C : zC p s m args meth c b_law_law 4 R_law D dA) (hX : va_X b L xs s s.heap) (hbl : b < s.heap.size) (hL : L ≤ 2562) (hj : j + 5 ≤ L) (hlo : s.heap.size ≤ lo) (hk : kc ≤ 600000 ∧ ks ≤ 7302249) (O : zOk σ ρ) (next : ∀ σ' ρ' : zS, zOk σ' ρ' → zz p l e room_1 s m args below meth c D (fun q => s.heap.size ≤ q) 4 Q (lw_w dA lo σ' ρ') n kc ks 710 [(0, .ref b), (1, .ref (xa0 lo 0)), (2, .ref (ma0 (lo + 112) 0)), (3, .int (nI j))] []) : zz p l e room_1 s m args below meth c D (fun q => s.heap.size ≤ q) 4 Q (lw_w dA lo σ ρ) n kc ks 506 [(0, .ref b), (1, .ref (xa0 lo 0)), (2, .ref (ma0 (lo + 112) 0)), (3, .int (nI j))] [] := by
  have hbA : ¬ (fun q => s.heap.size ≤ q) b := Nat.not_le.mpr hbl
  have M := l_mI O.2.2 O.1
  obtain ⟨a1, e1⟩ : ∃ v : Int32, v = xs (nI j + 1).toNatClampNeg := ⟨_, rfl⟩
  obtain ⟨a2, e2⟩ : ∃ v : Int32, v = xs (nI j + 2).toNatClampNeg := ⟨_, rfl⟩
  obtain ⟨a3, e3⟩ : ∃ v : Int32, v = xs (nI j + 3).toNatClampNeg := ⟨_, rfl⟩
  have E : zEq (xf_assign σ a1 a2 a3) (mf_assign ρ a1 a2 a3) := s_assign O
  refine zz_aload_n C d_law_law_506 rfl ?_
  refine zz_aload_n C d_law_law_507 rfl ?_
  refine zz_iload_n C d_law_law_508 rfl ?_
  refine zz_iconst (x := 1) C d_law_law_509 rfl ?_
  refine zz_iadd C d_law_law_510 ?_
  refine zz_sld C hX hbl hbA (lw_in (d := 1) rfl (by omega) hL) d_law_law_511 ?_
  rw [← e1]
  refine zz_aload_n C d_law_law_512 rfl ?_
  refine zz_iload_n C d_law_law_513 rfl ?_
  refine zz_iconst (x := 2) C d_law_law_514 rfl ?_
  refine zz_iadd C d_law_law_515 ?_
  refine zz_sld C hX hbl hbA (lw_in (d := 2) rfl (by omega) hL) d_law_law_516 ?_
  rw [← e2]
  refine zz_aload_n C d_law_law_517 rfl ?_
  refine zz_iload_n C d_law_law_518 rfl ?_
  refine zz_iconst (x := 3) C d_law_law_519 rfl ?_
  refine zz_iadd C d_law_law_520 ?_
  refine zz_sld C hX hbl hbA (lw_in (d := 3) rfl (by omega) hL) d_law_law_521 ?_
  rw [← e3]
  refine lw_callX (As := [.int a1, .int a2, .int a3]) (rest := []) C hlo (c_SM_assign (t := a1) (k := a2) (o := a3) O.1) s_law_66 rfl rfl rfl d_law_law_522 k_SM_assign ⟨by decide, by decide⟩ hk (by decide) ?_
  refine zz_aload_n C d_law_law_525 rfl ?_
  refine zz_aload_n C d_law_law_526 rfl ?_
  refine zz_iload_n C d_law_law_527 rfl ?_
  refine zz_iconst (x := 1) C d_law_law_528 rfl ?_
  refine zz_iadd C d_law_law_529 ?_
  refine zz_sld C hX hbl hbA (lw_in (d := 1) rfl (by omega) hL) d_law_law_530 ?_
  rw [← e1]
  refine zz_aload_n C d_law_law_531 rfl ?_
  refine zz_iload_n C d_law_law_532 rfl ?_
  refine zz_iconst (x := 2) C d_law_law_533 rfl ?_
  refine zz_iadd C d_law_law_534 ?_
  refine zz_sld C hX hbl hbA (lw_in (d := 2) rfl (by omega) hL) d_law_law_535 ?_
  rw [← e2]
  refine zz_aload_n C d_law_law_536 rfl ?_
  refine zz_iload_n C d_law_law_537 rfl ?_
  refine zz_iconst (x := 3) C d_law_law_538 rfl ?_
  refine zz_iadd C d_law_law_539 ?_
  refine zz_sld C hX hbl hbA (lw_in (d := 3) rfl (by omega) hL) d_law_law_540 ?_
  rw [← e3]
  refine lw_callM (As := [.int a1, .int a2, .int a3]) (rest := [.int ((xf_assign σ a1 a2 a3).1)]) C hlo (c_MM_assign (t := a1) (k := a2) (o := a3) M) s_law_69 rfl rfl rfl d_law_law_541 k_MM_assign ⟨by decide, by decide⟩ hk (by simp [Value.category]) ?_
  exact zz_icmp_eq (tgt := 710) C d_law_law_544 (by decide) (fun _ => next _ _ E.2) (fun q => absurd E.1.symm q)
set_option maxRecDepth 100000 in
theorem lw_case11 (C : zC p s m args meth c b_law_law 4 R_law D dA) (hX : va_X b L xs s s.heap) (hbl : b < s.heap.size) (hL : L ≤ 2562) (hj : j + 5 ≤ L) (hlo : s.heap.size ≤ lo) (hk : kc ≤ 600000 ∧ ks ≤ 7302249) (O : zOk σ ρ) (next : ∀ σ' ρ' : zS, zOk σ' ρ' → zz p l e room_1 s m args below meth c D (fun q => s.heap.size ≤ q) 4 Q (lw_w dA lo σ' ρ') n kc ks 710 [(0, .ref b), (1, .ref (xa0 lo 0)), (2, .ref (ma0 (lo + 112) 0)), (3, .int (nI j))] []) : zz p l e room_1 s m args below meth c D (fun q => s.heap.size ≤ q) 4 Q (lw_w dA lo σ ρ) n kc ks 549 [(0, .ref b), (1, .ref (xa0 lo 0)), (2, .ref (ma0 (lo + 112) 0)), (3, .int (nI j))] [] := by
  have hbA : ¬ (fun q => s.heap.size ≤ q) b := Nat.not_le.mpr hbl
  have M := l_mI O.2.2 O.1
  have E := s_collect O
  generalize hT : mf_l3 41 (1, mf_l0 40 0 ρ) = κ at E
  generalize hm : mf_cl 40 0 (0, κ) = qm at E
  obtain ⟨rm, τm⟩ := qm
  generalize hx : xf_collect σ = qx at E
  obtain ⟨rx, τx⟩ := qx
  refine zz_aload_n C d_law_law_549 rfl ?_
  refine lw_callX (As := []) (rest := []) C hlo (c_SM_collect  O.1 hx) s_law_70 rfl rfl rfl d_law_law_550 k_SM_collect ⟨by decide, by decide⟩ hk (by decide) ?_
  refine zz_aload_n C d_law_law_553 rfl ?_
  refine lw_callM (As := []) (rest := [.int (rx)]) C hlo (c_MM_collect M hT hm) s_law_74 rfl rfl rfl d_law_law_554 k_MM_collect ⟨by decide, by decide⟩ hk (by simp [Value.category]) ?_
  exact zz_icmp_eq (tgt := 710) C d_law_law_557 (by decide) (fun _ => next _ _ E.2) (fun q => absurd E.1.symm q)
set_option maxRecDepth 100000 in
theorem lw_case12 (C : zC p s m args meth c b_law_law 4 R_law D dA) (hX : va_X b L xs s s.heap) (hbl : b < s.heap.size) (hL : L ≤ 2562) (hj : j + 5 ≤ L) (hlo : s.heap.size ≤ lo) (hk : kc ≤ 600000 ∧ ks ≤ 7302249) (O : zOk σ ρ) (next : ∀ σ' ρ' : zS, zOk σ' ρ' → zz p l e room_1 s m args below meth c D (fun q => s.heap.size ≤ q) 4 Q (lw_w dA lo σ' ρ') n kc ks 710 [(0, .ref b), (1, .ref (xa0 lo 0)), (2, .ref (ma0 (lo + 112) 0)), (3, .int (nI j))] []) : zz p l e room_1 s m args below meth c D (fun q => s.heap.size ≤ q) 4 Q (lw_w dA lo σ ρ) n kc ks 562 [(0, .ref b), (1, .ref (xa0 lo 0)), (2, .ref (ma0 (lo + 112) 0)), (3, .int (nI j))] [] := by
  have hbA : ¬ (fun q => s.heap.size ≤ q) b := Nat.not_le.mpr hbl
  have M := l_mI O.2.2 O.1
  obtain ⟨a1, e1⟩ : ∃ v : Int32, v = xs (nI j + 1).toNatClampNeg := ⟨_, rfl⟩
  have E : mf_areaOf ρ a1 = xf_areaOf σ a1 := e_areaOf O.2.2 O.1
  refine zz_aload_n C d_law_law_562 rfl ?_
  refine zz_aload_n C d_law_law_563 rfl ?_
  refine zz_iload_n C d_law_law_564 rfl ?_
  refine zz_iconst (x := 1) C d_law_law_565 rfl ?_
  refine zz_iadd C d_law_law_566 ?_
  refine zz_sld C hX hbl hbA (lw_in (d := 1) rfl (by omega) hL) d_law_law_567 ?_
  rw [← e1]
  refine lw_callX (As := [.int a1]) (rest := []) C hlo (c_SM_areaOf (o := a1)) s_law_75 rfl rfl rfl d_law_law_568 k_SM_areaOf ⟨by decide, by decide⟩ hk (by decide) ?_
  refine zz_aload_n C d_law_law_571 rfl ?_
  refine zz_aload_n C d_law_law_572 rfl ?_
  refine zz_iload_n C d_law_law_573 rfl ?_
  refine zz_iconst (x := 1) C d_law_law_574 rfl ?_
  refine zz_iadd C d_law_law_575 ?_
  refine zz_sld C hX hbl hbA (lw_in (d := 1) rfl (by omega) hL) d_law_law_576 ?_
  rw [← e1]
  refine lw_callM (As := [.int a1]) (rest := [.int (xf_areaOf σ a1)]) C hlo (c_MM_areaOf (o := a1)) s_law_78 rfl rfl rfl d_law_law_577 k_MM_areaOf ⟨by decide, by decide⟩ hk (by simp [Value.category]) ?_
  exact zz_icmp_eq (tgt := 710) C d_law_law_580 (by decide) (fun _ => next _ _ O) (fun q => absurd E.symm q)
set_option maxRecDepth 100000 in
theorem lw_case13 (C : zC p s m args meth c b_law_law 4 R_law D dA) (hX : va_X b L xs s s.heap) (hbl : b < s.heap.size) (hL : L ≤ 2562) (hj : j + 5 ≤ L) (hlo : s.heap.size ≤ lo) (hk : kc ≤ 600000 ∧ ks ≤ 7302249) (O : zOk σ ρ) (next : ∀ σ' ρ' : zS, zOk σ' ρ' → zz p l e room_1 s m args below meth c D (fun q => s.heap.size ≤ q) 4 Q (lw_w dA lo σ' ρ') n kc ks 710 [(0, .ref b), (1, .ref (xa0 lo 0)), (2, .ref (ma0 (lo + 112) 0)), (3, .int (nI j))] []) : zz p l e room_1 s m args below meth c D (fun q => s.heap.size ≤ q) 4 Q (lw_w dA lo σ ρ) n kc ks 585 [(0, .ref b), (1, .ref (xa0 lo 0)), (2, .ref (ma0 (lo + 112) 0)), (3, .int (nI j))] [] := by
  have hbA : ¬ (fun q => s.heap.size ≤ q) b := Nat.not_le.mpr hbl
  have M := l_mI O.2.2 O.1
  obtain ⟨a1, e1⟩ : ∃ v : Int32, v = xs (nI j + 1).toNatClampNeg := ⟨_, rfl⟩
  have E : mf_room ρ a1 = xf_room σ a1 := e_room O.2.2 O.1 O.2.1
  refine zz_aload_n C d_law_law_585 rfl ?_
  refine zz_aload_n C d_law_law_586 rfl ?_
  refine zz_iload_n C d_law_law_587 rfl ?_
  refine zz_iconst (x := 1) C d_law_law_588 rfl ?_
  refine zz_iadd C d_law_law_589 ?_
  refine zz_sld C hX hbl hbA (lw_in (d := 1) rfl (by omega) hL) d_law_law_590 ?_
  rw [← e1]
  refine lw_callX (As := [.int a1]) (rest := []) C hlo (c_SM_room (a := a1) O.1) s_law_79 rfl rfl rfl d_law_law_591 k_SM_room ⟨by decide, by decide⟩ hk (by decide) ?_
  refine zz_aload_n C d_law_law_594 rfl ?_
  refine zz_aload_n C d_law_law_595 rfl ?_
  refine zz_iload_n C d_law_law_596 rfl ?_
  refine zz_iconst (x := 1) C d_law_law_597 rfl ?_
  refine zz_iadd C d_law_law_598 ?_
  refine zz_sld C hX hbl hbA (lw_in (d := 1) rfl (by omega) hL) d_law_law_599 ?_
  rw [← e1]
  refine lw_callM (As := [.int a1]) (rest := [.int (xf_room σ a1)]) C hlo (c_MM_room (a := a1) M) s_law_82 rfl rfl rfl d_law_law_600 k_MM_room ⟨by decide, by decide⟩ hk (by simp [Value.category]) ?_
  exact zz_icmp_eq (tgt := 710) C d_law_law_603 (by decide) (fun _ => next _ _ O) (fun q => absurd E.symm q)
set_option maxRecDepth 100000 in
theorem lw_case14 (C : zC p s m args meth c b_law_law 4 R_law D dA) (hX : va_X b L xs s s.heap) (hbl : b < s.heap.size) (hL : L ≤ 2562) (hj : j + 5 ≤ L) (hlo : s.heap.size ≤ lo) (hk : kc ≤ 600000 ∧ ks ≤ 7302249) (O : zOk σ ρ) (next : ∀ σ' ρ' : zS, zOk σ' ρ' → zz p l e room_1 s m args below meth c D (fun q => s.heap.size ≤ q) 4 Q (lw_w dA lo σ' ρ') n kc ks 710 [(0, .ref b), (1, .ref (xa0 lo 0)), (2, .ref (ma0 (lo + 112) 0)), (3, .int (nI j))] []) : zz p l e room_1 s m args below meth c D (fun q => s.heap.size ≤ q) 4 Q (lw_w dA lo σ ρ) n kc ks 608 [(0, .ref b), (1, .ref (xa0 lo 0)), (2, .ref (ma0 (lo + 112) 0)), (3, .int (nI j))] [] := by
  have hbA : ¬ (fun q => s.heap.size ≤ q) b := Nat.not_le.mpr hbl
  have M := l_mI O.2.2 O.1
  obtain ⟨a1, e1⟩ : ∃ v : Int32, v = xs (nI j + 1).toNatClampNeg := ⟨_, rfl⟩
  have E : mf_parent ρ a1 = xf_parent σ a1 := e_parent O.2.2 O.1 O.2.1
  refine zz_aload_n C d_law_law_608 rfl ?_
  refine zz_aload_n C d_law_law_609 rfl ?_
  refine zz_iload_n C d_law_law_610 rfl ?_
  refine zz_iconst (x := 1) C d_law_law_611 rfl ?_
  refine zz_iadd C d_law_law_612 ?_
  refine zz_sld C hX hbl hbA (lw_in (d := 1) rfl (by omega) hL) d_law_law_613 ?_
  rw [← e1]
  refine lw_callX (As := [.int a1]) (rest := []) C hlo (c_SM_parent (z := a1) O.1) s_law_83 rfl rfl rfl d_law_law_614 k_SM_parent ⟨by decide, by decide⟩ hk (by decide) ?_
  refine zz_aload_n C d_law_law_617 rfl ?_
  refine zz_aload_n C d_law_law_618 rfl ?_
  refine zz_iload_n C d_law_law_619 rfl ?_
  refine zz_iconst (x := 1) C d_law_law_620 rfl ?_
  refine zz_iadd C d_law_law_621 ?_
  refine zz_sld C hX hbl hbA (lw_in (d := 1) rfl (by omega) hL) d_law_law_622 ?_
  rw [← e1]
  refine lw_callM (As := [.int a1]) (rest := [.int (xf_parent σ a1)]) C hlo (c_MM_parent (z := a1) M) s_law_86 rfl rfl rfl d_law_law_623 k_MM_parent ⟨by decide, by decide⟩ hk (by simp [Value.category]) ?_
  exact zz_icmp_eq (tgt := 710) C d_law_law_626 (by decide) (fun _ => next _ _ O) (fun q => absurd E.symm q)
set_option maxRecDepth 100000 in
theorem lw_case15 (C : zC p s m args meth c b_law_law 4 R_law D dA) (hX : va_X b L xs s s.heap) (hbl : b < s.heap.size) (hL : L ≤ 2562) (hj : j + 5 ≤ L) (hlo : s.heap.size ≤ lo) (hk : kc ≤ 600000 ∧ ks ≤ 7302249) (O : zOk σ ρ) (next : ∀ σ' ρ' : zS, zOk σ' ρ' → zz p l e room_1 s m args below meth c D (fun q => s.heap.size ≤ q) 4 Q (lw_w dA lo σ' ρ') n kc ks 710 [(0, .ref b), (1, .ref (xa0 lo 0)), (2, .ref (ma0 (lo + 112) 0)), (3, .int (nI j))] []) : zz p l e room_1 s m args below meth c D (fun q => s.heap.size ≤ q) 4 Q (lw_w dA lo σ ρ) n kc ks 631 [(0, .ref b), (1, .ref (xa0 lo 0)), (2, .ref (ma0 (lo + 112) 0)), (3, .int (nI j))] [] := by
  have hbA : ¬ (fun q => s.heap.size ≤ q) b := Nat.not_le.mpr hbl
  have M := l_mI O.2.2 O.1
  obtain ⟨a1, e1⟩ : ∃ v : Int32, v = xs (nI j + 1).toNatClampNeg := ⟨_, rfl⟩
  have E : mf_entries ρ a1 = xf_entries σ a1 := e_entries O.2.2 O.1
  refine zz_aload_n C d_law_law_631 rfl ?_
  refine zz_aload_n C d_law_law_632 rfl ?_
  refine zz_iload_n C d_law_law_633 rfl ?_
  refine zz_iconst (x := 1) C d_law_law_634 rfl ?_
  refine zz_iadd C d_law_law_635 ?_
  refine zz_sld C hX hbl hbA (lw_in (d := 1) rfl (by omega) hL) d_law_law_636 ?_
  rw [← e1]
  refine lw_callX (As := [.int a1]) (rest := []) C hlo (c_SM_entries (z := a1) O.1) s_law_87 rfl rfl rfl d_law_law_637 k_SM_entries ⟨by decide, by decide⟩ hk (by decide) ?_
  refine zz_aload_n C d_law_law_640 rfl ?_
  refine zz_aload_n C d_law_law_641 rfl ?_
  refine zz_iload_n C d_law_law_642 rfl ?_
  refine zz_iconst (x := 1) C d_law_law_643 rfl ?_
  refine zz_iadd C d_law_law_644 ?_
  refine zz_sld C hX hbl hbA (lw_in (d := 1) rfl (by omega) hL) d_law_law_645 ?_
  rw [← e1]
  refine lw_callM (As := [.int a1]) (rest := [.int (xf_entries σ a1)]) C hlo (c_MM_entries (z := a1) M) s_law_90 rfl rfl rfl d_law_law_646 k_MM_entries ⟨by decide, by decide⟩ hk (by simp [Value.category]) ?_
  exact zz_icmp_eq (tgt := 710) C d_law_law_649 (by decide) (fun _ => next _ _ O) (fun q => absurd E.symm q)
set_option maxRecDepth 100000 in
theorem lw_case16 (C : zC p s m args meth c b_law_law 4 R_law D dA) (hX : va_X b L xs s s.heap) (hbl : b < s.heap.size) (hL : L ≤ 2562) (hj : j + 5 ≤ L) (hlo : s.heap.size ≤ lo) (hk : kc ≤ 600000 ∧ ks ≤ 7302249) (O : zOk σ ρ) (next : ∀ σ' ρ' : zS, zOk σ' ρ' → zz p l e room_1 s m args below meth c D (fun q => s.heap.size ≤ q) 4 Q (lw_w dA lo σ' ρ') n kc ks 710 [(0, .ref b), (1, .ref (xa0 lo 0)), (2, .ref (ma0 (lo + 112) 0)), (3, .int (nI j))] []) : zz p l e room_1 s m args below meth c D (fun q => s.heap.size ≤ q) 4 Q (lw_w dA lo σ ρ) n kc ks 654 [(0, .ref b), (1, .ref (xa0 lo 0)), (2, .ref (ma0 (lo + 112) 0)), (3, .int (nI j))] [] := by
  have hbA : ¬ (fun q => s.heap.size ≤ q) b := Nat.not_le.mpr hbl
  have M := l_mI O.2.2 O.1
  obtain ⟨a1, e1⟩ : ∃ v : Int32, v = xs (nI j + 1).toNatClampNeg := ⟨_, rfl⟩
  obtain ⟨a2, e2⟩ : ∃ v : Int32, v = xs (nI j + 2).toNatClampNeg := ⟨_, rfl⟩
  have E : mf_view ρ a1 a2 = xf_view σ a1 a2 := e_view O.2.2 O.1 O.2.1
  refine zz_aload_n C d_law_law_654 rfl ?_
  refine zz_aload_n C d_law_law_655 rfl ?_
  refine zz_iload_n C d_law_law_656 rfl ?_
  refine zz_iconst (x := 1) C d_law_law_657 rfl ?_
  refine zz_iadd C d_law_law_658 ?_
  refine zz_sld C hX hbl hbA (lw_in (d := 1) rfl (by omega) hL) d_law_law_659 ?_
  rw [← e1]
  refine zz_aload_n C d_law_law_660 rfl ?_
  refine zz_iload_n C d_law_law_661 rfl ?_
  refine zz_iconst (x := 2) C d_law_law_662 rfl ?_
  refine zz_iadd C d_law_law_663 ?_
  refine zz_sld C hX hbl hbA (lw_in (d := 2) rfl (by omega) hL) d_law_law_664 ?_
  rw [← e2]
  refine lw_callX (As := [.int a1, .int a2]) (rest := []) C hlo (c_SM_view (t := a1) (i := a2) O.1) s_law_91 rfl rfl rfl d_law_law_665 k_SM_view ⟨by decide, by decide⟩ hk (by decide) ?_
  refine zz_aload_n C d_law_law_668 rfl ?_
  refine zz_aload_n C d_law_law_669 rfl ?_
  refine zz_iload_n C d_law_law_670 rfl ?_
  refine zz_iconst (x := 1) C d_law_law_671 rfl ?_
  refine zz_iadd C d_law_law_672 ?_
  refine zz_sld C hX hbl hbA (lw_in (d := 1) rfl (by omega) hL) d_law_law_673 ?_
  rw [← e1]
  refine zz_aload_n C d_law_law_674 rfl ?_
  refine zz_iload_n C d_law_law_675 rfl ?_
  refine zz_iconst (x := 2) C d_law_law_676 rfl ?_
  refine zz_iadd C d_law_law_677 ?_
  refine zz_sld C hX hbl hbA (lw_in (d := 2) rfl (by omega) hL) d_law_law_678 ?_
  rw [← e2]
  refine lw_callM (As := [.int a1, .int a2]) (rest := [.int (xf_view σ a1 a2)]) C hlo (c_MM_view (t := a1) (i := a2) M) s_law_94 rfl rfl rfl d_law_law_679 k_MM_view ⟨by decide, by decide⟩ hk (by simp [Value.category]) ?_
  exact zz_icmp_eq (tgt := 710) C d_law_law_682 (by decide) (fun _ => next _ _ O) (fun q => absurd E.symm q)
set_option maxRecDepth 100000 in
theorem lw_case17 (C : zC p s m args meth c b_law_law 4 R_law D dA) (hX : va_X b L xs s s.heap) (hbl : b < s.heap.size) (hL : L ≤ 2562) (hj : j + 5 ≤ L) (hlo : s.heap.size ≤ lo) (hk : kc ≤ 600000 ∧ ks ≤ 7302249) (O : zOk σ ρ) (next : ∀ σ' ρ' : zS, zOk σ' ρ' → zz p l e room_1 s m args below meth c D (fun q => s.heap.size ≤ q) 4 Q (lw_w dA lo σ' ρ') n kc ks 710 [(0, .ref b), (1, .ref (xa0 lo 0)), (2, .ref (ma0 (lo + 112) 0)), (3, .int (nI j))] []) : zz p l e room_1 s m args below meth c D (fun q => s.heap.size ≤ q) 4 Q (lw_w dA lo σ ρ) n kc ks 687 [(0, .ref b), (1, .ref (xa0 lo 0)), (2, .ref (ma0 (lo + 112) 0)), (3, .int (nI j))] [] := by
  have hbA : ¬ (fun q => s.heap.size ≤ q) b := Nat.not_le.mpr hbl
  have M := l_mI O.2.2 O.1
  obtain ⟨a1, e1⟩ : ∃ v : Int32, v = xs (nI j + 1).toNatClampNeg := ⟨_, rfl⟩
  have E : zEq (xf_count σ a1) (mf_count ρ a1) := s_count O
  generalize hm : mf_count ρ a1 = qm at E
  obtain ⟨rm, τm⟩ := qm
  generalize hx : xf_count σ a1 = qx at E
  obtain ⟨rx, τx⟩ := qx
  refine zz_aload_n C d_law_law_687 rfl ?_
  refine zz_aload_n C d_law_law_688 rfl ?_
  refine zz_iload_n C d_law_law_689 rfl ?_
  refine zz_iconst (x := 1) C d_law_law_690 rfl ?_
  refine zz_iadd C d_law_law_691 ?_
  refine zz_sld C hX hbl hbA (lw_in (d := 1) rfl (by omega) hL) d_law_law_692 ?_
  rw [← e1]
  refine lw_callX (As := [.int a1]) (rest := []) C hlo (c_SM_count (w := a1) O.1 hx) s_law_95 rfl rfl rfl d_law_law_693 k_SM_count ⟨by decide, by decide⟩ hk (by decide) ?_
  refine zz_aload_n C d_law_law_696 rfl ?_
  refine zz_aload_n C d_law_law_697 rfl ?_
  refine zz_iload_n C d_law_law_698 rfl ?_
  refine zz_iconst (x := 1) C d_law_law_699 rfl ?_
  refine zz_iadd C d_law_law_700 ?_
  refine zz_sld C hX hbl hbA (lw_in (d := 1) rfl (by omega) hL) d_law_law_701 ?_
  rw [← e1]
  refine lw_callM (As := [.int a1]) (rest := [.int (rx)]) C hlo (c_MM_count (w := a1) M hm) s_law_98 rfl rfl rfl d_law_law_702 k_MM_count ⟨by decide, by decide⟩ hk (by simp [Value.category]) ?_
  exact zz_icmp_eq (tgt := 710) C d_law_law_705 (by decide) (fun _ => next _ _ E.2) (fun q => absurd E.1.symm q)
end LC
