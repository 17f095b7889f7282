section ZN
variable {p : Program} {l : Launch} {e : Env} {R : Room} {s : State} {m : MethodId} {args : Array Value} {below : List Frame} {meth : Method} {c : Code} {cc : ByteArray} {nL : Nat} {own : String} {D : va_G} {dA : Nat → ClassId} {A : Nat → Prop} {Q : State → Prop} {w : zW} {n kc ks pc : Nat} {lv : zL} {st : List Value}
theorem zz_newB (C : zC p s m args meth c cc nL own D dA) {Cn : String} {T : u_T} {N ci index : Nat} {fs : List Value} (hc : classes[ci]? = some (Cn, T, N)) (hin : ∀ w ∈ u_ws Cn T N, w ∈ zT) (ty0 : Nat → FieldType) (hty : ∀ k, k < N → parseFieldDescriptor (T k).2.2.1 = some (ty0 k)) (hcl : Cond.classLink own index Cn ∈ zT ∧ Cond.instantiable Cn N ∈ zT ∧ Cond.initialized Cn ∈ zT) (hfs : ∀ j, j < N → defaultValue (ty0 j) = vp_V fs j) (hcells : kc + 1 ≤ R.cells) (hslots : ks + N ≤ R.slots) (hd : decode cc pc = .ok (.new index, 3)) (k : zz p l e R s m args below meth c D A nL Q (va_up w n (some (.inr (ci, fs)))) (n + 1) (kc + 1) (ks + N) (pc + 3) lv (.ref n :: st)) : zz p l e R s m args below meth c D A nL Q w n kc ks pc lv st := by
  intro H locs ls hn hP hS hL
  have hK : va_K D classes (zTy dA) s := C.2.2.2.2.2.1.1
  have hts := C.2.2.2.2.1
  have hKn := hK.1 ci _ hc
  refine W.newcK C.1 C.2.1 C.2.2.2.1 (hts _ hcl.1) (hts _ hcl.2.1) (hts _ hcl.2.2) rfl hd hcells hslots hKn.2.1 hn fun H1 kC hkC e1 z1 o1 => ?_
  exact k H1 locs ls z1 (hP.push hn ⟨_, hc, (u_born ty0 hts hin hKn hkC e1 hty).to hfs⟩ o1) ⟨Nat.le_trans hS.1 (by omega), fun x h1 h2 => (o1 x (by have := hS.1; omega)).trans (hS.2.1 x h1 h2), hS.2.2⟩ hL
end ZN
theorem za_int : Cond.arrayClass .int ∈ zT := zt_of (i := 46) (by decide +kernel) rfl
theorem za_bool : Cond.arrayClass .boolean ∈ zT := zt_of (i := 90) (by decide +kernel) rfl
theorem zc_obj : Cond.code objectInit ⟨#[0xb1]⟩ 1 none ∈ zT := zt_of (i := 14) rfl rfl
theorem zo_SM : Cond.methodLink R_SM 1 objectInit ∈ zT ∧ Cond.instanceMethod objectInit ∈ zT ∧ Cond.code objectInit ⟨#[0xb1]⟩ 1 none ∈ zT := ⟨zt_of (i := 12) (by decide +kernel) rfl, zt_of (i := 13) (by decide +kernel) rfl, zc_obj⟩
theorem zo_Ar : Cond.methodLink R_Ar 3 objectInit ∈ zT ∧ Cond.instanceMethod objectInit ∈ zT ∧ Cond.code objectInit ⟨#[0xb1]⟩ 1 none ∈ zT := ⟨zt_of (i := 25) (by decide +kernel) rfl, zt_of (i := 13) (by decide +kernel) rfl, zc_obj⟩
theorem zo_Ce : Cond.methodLink R_Ce 3 objectInit ∈ zT ∧ Cond.instanceMethod objectInit ∈ zT ∧ Cond.code objectInit ⟨#[0xb1]⟩ 1 none ∈ zT := ⟨zt_of (i := 51) (by decide +kernel) rfl, zt_of (i := 13) (by decide +kernel) rfl, zc_obj⟩
theorem zo_Ro : Cond.methodLink R_Ro 3 objectInit ∈ zT ∧ Cond.instanceMethod objectInit ∈ zT ∧ Cond.code objectInit ⟨#[0xb1]⟩ 1 none ∈ zT := ⟨zt_of (i := 72) (by decide +kernel) rfl, zt_of (i := 13) (by decide +kernel) rfl, zc_obj⟩
theorem zo_MM : Cond.methodLink R_MM 1 objectInit ∈ zT ∧ Cond.instanceMethod objectInit ∈ zT ∧ Cond.code objectInit ⟨#[0xb1]⟩ 1 none ∈ zT := ⟨zt_of (i := 336) (by decide +kernel) rfl, zt_of (i := 13) (by decide +kernel) rfl, zc_obj⟩
theorem zc_Ar : Cond.classLink R_SM 9 R_Ar ∈ zT ∧ Cond.instantiable R_Ar 5 ∈ zT ∧ Cond.initialized R_Ar ∈ zT := ⟨zt_of (i := 15) (by decide +kernel) rfl, zt_of (i := 21) (by decide +kernel) rfl, zt_of (i := 2) (by decide +kernel) rfl⟩
theorem zc_Ce : Cond.classLink R_SM 15 R_Ce ∈ zT ∧ Cond.instantiable R_Ce 4 ∈ zT ∧ Cond.initialized R_Ce ∈ zT := ⟨zt_of (i := 17) (by decide +kernel) rfl, zt_of (i := 47) (by decide +kernel) rfl, zt_of (i := 3) (by decide +kernel) rfl⟩
theorem zc_Ro : Cond.classLink R_SM 21 R_Ro ∈ zT ∧ Cond.instantiable R_Ro 5 ∈ zT ∧ Cond.initialized R_Ro ∈ zT := ⟨zt_of (i := 19) (by decide +kernel) rfl, zt_of (i := 68) (by decide +kernel) rfl, zt_of (i := 4) (by decide +kernel) rfl⟩
theorem zm_min : (Cond.methodLink R_SM 173 Lib.Math.min.name ∈ zT ∧ Cond.static Lib.Math.min.name ∈ zT ∧ Cond.initialized "java/lang/Math" ∈ zT) := ⟨zt_of (i := 94) (by decide +kernel) rfl, zt_of (i := 95) (by decide +kernel) rfl, zt_of (i := 5) (by decide +kernel) rfl⟩
theorem zm_max : (Cond.methodLink R_SM 179 Lib.Math.max.name ∈ zT ∧ Cond.static Lib.Math.max.name ∈ zT ∧ Cond.initialized "java/lang/Math" ∈ zT) := ⟨zt_of (i := 97) (by decide +kernel) rfl, zt_of (i := 98) (by decide +kernel) rfl, zt_of (i := 5) (by decide +kernel) rfl⟩
theorem zm_minc : Cond.code Lib.Math.min.name Lib.Math.min.code 2 (some .int) ∈ zT := zt_of (i := 96) rfl rfl
theorem zm_maxc : Cond.code Lib.Math.max.name Lib.Math.max.code 2 (some .int) ∈ zT := zt_of (i := 99) rfl rfl
set_option maxHeartbeats 400000 in
set_option maxRecDepth 100000 in
theorem c_SM_clampBaseSize {l : Launch} {D : va_G} {dA : Nat → ClassId} {lo n : Nat} {σ : zS} {x : Int32} : xM l y_SM_clampBaseSize b_SM_clampBaseSize 1 (some .int) 1 D dA lo n [.int x] σ (some (.int (xf_clampBaseSize x))) σ := by
  refine zM_of (lv0 := [(0, .int x)]) (by decide) rfl rfl rfl ?_
  intro p e s m below meth c C hr hnm hsz
  have C : zC p s m _ meth c b_SM_clampBaseSize 1 R_SM D dA := C
  refine zz_iconst (x := 4) C d_SM_clampBaseSize_0 rfl ?_
  refine zz_bipush (x := 60) C d_SM_clampBaseSize_1 rfl ?_
  refine zz_iload_n C d_SM_clampBaseSize_3 rfl ?_
  refine zz_mmin C zm_min zm_minc (by decide) (by decide) (Nat.le_refl _) (Nat.le_refl _) d_SM_clampBaseSize_4 ?_
  refine zz_mmax C zm_max zm_maxc (by decide) (by decide) (Nat.le_refl _) (Nat.le_refl _) d_SM_clampBaseSize_7 ?_
  exact xr_i C hr rfl d_SM_clampBaseSize_10 rfl rfl
set_option maxHeartbeats 400000 in
set_option maxRecDepth 100000 in
theorem c_Ar_init {l : Launch} {D : va_G} {dA : Nat → ClassId} {A : Nat → Prop} {a n : Nat} {w : zW} (ha : w a = some (.inr (0, [.int 0, .int 0, .int 0, .int 0, .int 0]))) (hA : A a) : zM l y_Ar_init b_Ar_init 1 none (zR 1) D dA A [.ref a] w n none (va_up w a (some (.inr (0, [.int 0, .int 0, .int 0, .int 0, .int (-1)])))) n 0 0 := by
  refine zM_of (lv0 := [(0, .ref a)]) (by decide) rfl rfl rfl ?_
  intro p e s m below meth c C hr hnm hsz
  have C : zC p s m _ meth c b_Ar_init 1 R_Ar D dA := C
  refine zz_aload_n C d_Ar_init_0 rfl ?_
  refine zz_objInit C zo_Ar d_Ar_init_1 (by decide) (by decide) ?_
  refine zz_aload_n C d_Ar_init_4 rfl ?_
  refine zz_iconst (x := 0) C d_Ar_init_5 rfl ?_
  refine zz_put C (ci := 0) (N := 5) 3 rfl zi_Ar t_Ar t_Ar_ok n_Ar (by decide) fl_Ar_9 rfl rfl rfl rfl (Nat.le_of_ble_eq_true rfl) ha hA d_Ar_init_6 ?_
  refine zz_aload_n C d_Ar_init_9 rfl ?_
  refine zz_iconst (x := -1) C d_Ar_init_10 rfl ?_
  refine zz_put C (ci := 0) (N := 5) 4 rfl zi_Ar t_Ar t_Ar_ok n_Ar (by decide) fl_Ar_15 rfl rfl rfl rfl (Nat.le_of_ble_eq_true rfl) (va_up_self _ _ _) hA d_Ar_init_11 ?_
  exact zz_vret C hr d_Ar_init_14 (Nat.le_refl _) (Nat.le_refl _) rfl (fun q e h => by rw [bx_uu]; exact h)
def zRm (K cells slots : Nat) : Room := { frames := K, cells := cells, slots := slots, locals := 40 * K }
set_option maxHeartbeats 400000 in
set_option maxRecDepth 100000 in
theorem c_Ce_init {l : Launch} {D : va_G} {dA : Nat → ClassId} {A : Nat → Prop} {a n : Nat} {w : zW} (ha : w a = some (.inr (1, [.null, .int 0, .int 0, .int 0]))) (hA : A a) (hne : a ≠ n) : zM l y_Ce_init b_Ce_init 1 none (zRm 1 1 4) D dA A [.ref a] w n none (va_up (va_up w n (some (.inl (dA 0, 4, .inl (fun _ => 0))))) a (some (.inr (1, [.ref n, .int (-1), .int 0, .int 0])))) (n + 1) 1 4 := by
  refine zM_of (lv0 := [(0, .ref a)]) (by decide) rfl rfl rfl ?_
  intro p e s m below meth c C hr hnm hsz
  have C : zC p s m _ meth c b_Ce_init 1 R_Ce D dA := C
  refine zz_aload_n C d_Ce_init_0 rfl ?_
  refine zz_objInit C zo_Ce d_Ce_init_1 (by decide) (by decide) ?_
  refine zz_aload_n C d_Ce_init_4 rfl ?_
  refine zz_iconst (x := 4) C d_Ce_init_5 rfl ?_
  refine zz_newa (atype := .int) (ty := .int) (t0 := 0) (a0 := (4, .inl (fun _ => 0))) C rfl rfl za_int (fun _ _ => rfl) (fun _ => rfl) (by decide) rfl (by decide) (by decide) (by decide) d_Ce_init_6 ?_
  refine zz_putF C (ci := 1) (N := 4) 0 rfl zi_Ce t_Ce t_Ce_ok n_Ce (by decide) fl_Ce_9 rfl hnm rfl rfl rfl rfl (Nat.le_of_ble_eq_true rfl) ((va_up_ne _ _ hne).trans ha) hA d_Ce_init_8 ?_
  refine zz_aload_n C d_Ce_init_11 rfl ?_
  refine zz_iconst (x := -1) C d_Ce_init_12 rfl ?_
  refine zz_put C (ci := 1) (N := 4) 1 rfl zi_Ce t_Ce t_Ce_ok n_Ce (by decide) fl_Ce_15 rfl rfl rfl rfl (Nat.le_of_ble_eq_true rfl) (va_up_self _ _ _) hA d_Ce_init_13 ?_
  exact zz_vret C hr d_Ce_init_16 (Nat.le_refl _) (Nat.le_refl _) rfl (fun q e h => by rw [bx_uu]; exact h)
set_option maxHeartbeats 400000 in
set_option maxRecDepth 100000 in
theorem c_Ro_init {l : Launch} {D : va_G} {dA : Nat → ClassId} {A : Nat → Prop} {a n : Nat} {w : zW} (ha : w a = some (.inr (2, [.null, .null, .null, .int 0, .int 0]))) (hA : A a) (hne : a < n) : zM l y_Ro_init b_Ro_init 1 none (zRm 1 3 36) D dA A [.ref a] w n none (va_up (va_up (va_up (va_up w n (some (.inl (dA 0, 12, .inl (fun _ => 0))))) (n + 1) (some (.inl (dA 0, 12, .inl (fun _ => 0))))) (n + 2) (some (.inl (dA 1, 12, .inl (fun _ => 0))))) a (some (.inr (2, [.ref n, .ref (n + 1), .ref (n + 2), .int 0, .int 0])))) (n + 3) 3 36 := by
  refine zM_of (lv0 := [(0, .ref a)]) (by decide) rfl rfl rfl ?_
  intro p e s m below meth c C hr hnm hsz
  have C : zC p s m _ meth c b_Ro_init 1 R_Ro D dA := C
  refine zz_aload_n C d_Ro_init_0 rfl ?_
  refine zz_objInit C zo_Ro d_Ro_init_1 (by decide) (by decide) ?_
  refine zz_aload_n C d_Ro_init_4 rfl ?_
  refine zz_bipush (x := 12) C d_Ro_init_5 rfl ?_
  refine zz_newa (atype := .int) (ty := .int) (t0 := 0) (a0 := (12, .inl (fun _ => 0))) C rfl rfl za_int (fun _ _ => rfl) (fun _ => rfl) (by decide) rfl (by decide) (by decide) (by decide) d_Ro_init_7 ?_
  refine zz_putF C (ci := 2) (N := 5) 0 rfl zi_Ro t_Ro t_Ro_ok n_Ro (by decide) fl_Ro_9 rfl hnm rfl rfl rfl rfl (Nat.le_of_ble_eq_true rfl) ((va_up_ne _ _ (by omega)).trans ha) hA d_Ro_init_9 ?_
  refine zz_aload_n C d_Ro_init_12 rfl ?_
  refine zz_bipush (x := 12) C d_Ro_init_13 rfl ?_
  refine zz_newa (atype := .int) (ty := .int) (t0 := 0) (a0 := (12, .inl (fun _ => 0))) C rfl rfl za_int (fun _ _ => rfl) (fun _ => rfl) (by decide) rfl (by decide) (by decide) (by decide) d_Ro_init_15 ?_
  refine zz_putF C (ci := 2) (N := 5) 1 rfl zi_Ro t_Ro t_Ro_ok n_Ro (by decide) fl_Ro_15 rfl hnm rfl rfl rfl rfl (Nat.le_of_ble_eq_true rfl) ((va_up_ne _ _ (by omega)).trans (va_up_self _ _ _)) hA d_Ro_init_17 ?_
  refine zz_aload_n C d_Ro_init_20 rfl ?_
  refine zz_bipush (x := 12) C d_Ro_init_21 rfl ?_
  refine zz_newa (atype := .boolean) (ty := .boolean) (t0 := 1) (a0 := (12, .inl (fun _ => 0))) C rfl rfl za_bool (fun _ _ => rfl) (fun _ => rfl) (by decide) rfl (by decide) (by decide) (by decide) d_Ro_init_23 ?_
  refine zz_putF C (ci := 2) (N := 5) 2 rfl zi_Ro t_Ro t_Ro_ok n_Ro (by decide) fl_Ro_18 rfl hnm rfl rfl rfl rfl (Nat.le_of_ble_eq_true rfl) ((va_up_ne _ _ (by omega)).trans (va_up_self _ _ _)) hA d_Ro_init_25 ?_
  refine zz_vret C hr d_Ro_init_28 (by decide) (by decide) rfl (fun q e h => ?_)
  rw [← h]
  unfold va_up
  (repeat' split) <;> first | rfl | (exfalso; omega)
