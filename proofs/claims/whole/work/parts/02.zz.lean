-- the words of the tables that every method may have: the good ones and the codes; those of nest mates; the classes that arrays are made of
def zIsN : Cond → Bool
  | .fieldLinkNest .. => true
  | .methodLinkNest .. => true
  | _ => false
def zT : List Cond := lw_tbl.filter (fun w => k2_isCode w || goodWord w)
def zN : List Cond := lw_tbl.filter zIsN
theorem zT_good : ∀ w ∈ zT, ((w.onTables && w.keeps) = true ∨ ∃ ty, w = .arrayClass ty) := by
  intro w hw
  have h := (List.mem_filter.mp hw).2
  simp only [Bool.or_eq_true] at h
  rcases h with h | h
  · cases w <;> first | (simp [k2_isCode] at h; done) | exact Or.inl rfl
  · exact good_of_word h
abbrev zW : Type := Nat → Option va_E
abbrev zL : Type := List (Nat × Value)
/-- the cells that are known, by their addresses -/
def zP (D : va_G) (w : zW) (H : Heap) : Prop := ∀ (q : Nat) (e : va_E), w q = some e → va_at D classes (q, e) H
/-- what the tables say, of any state of the run -/
def zKK (D : va_G) (dA : Nat → ClassId) (U : State) : Prop := va_K D classes (zTy dA) U ∧ (∀ w ∈ zN, va_Nw w U) ∧ ∀ C ∈ zAO, va_AO C U
theorem zKK.warm {D : va_G} {dA : Nat → ClassId} {s U : State} (hW : s.WarmedH U.vm) (h : zKK D dA s) : zKK D dA U := by
  refine ⟨va_K.moved hW.alike h.1, fun w hw => ?_, fun C hC => (h.2.2 C hC).moved hW.alike⟩
  have h1 := h.2.1 w hw
  have h2 := (List.mem_filter.mp hw).2
  cases w <;> first | exact va_Nw.warmF hW h1 | exact va_Nw.warmM hW h1 | (simp [zIsN] at h2; done)
theorem zKK.call {D : va_G} {dA : Nat → ClassId} {U : State} {g : JFrame} {mk : MethodId} {a : Array Value} (h : zKK D dA U) : zKK D dA (U.calling g mk a) := by
  refine ⟨va_K.moved (u := U) (U := U.calling g mk a) (Vm.Alike.refl U.vm) h.1, fun w hw => ?_, fun C hC => (h.2.2 C hC).moved (Vm.Alike.refl U.vm)⟩
  have h1 := h.2.1 w hw
  have h2 := (List.mem_filter.mp hw).2
  cases w <;> first | exact va_Nw.same rfl rfl h1 | (simp [zIsN] at h2; done)
theorem zKK.nest {D : va_G} {dA : Nat → ClassId} {U : State} {w : Cond} {A : Array Value} (h : zKK D dA U) (hw : w ∈ zN) : w.before A U = true := by
  have h1 := h.2.1 w hw
  have h2 := (List.mem_filter.mp hw).2
  cases w <;> first | exact va_Nw.use rfl h1 | (simp [zIsN] at h2; done)
-- locals: an association list, the first entry counts
def zH (ls : Array Slot) (nL : Nat) (lv : zL) : Prop := ∃ l0 : zL, lv_has ls nL l0 ∧ ∀ (i : Nat) (v : Value), lv.lookup i = some v → (i, v) ∈ l0 ∧ v.category = 1
theorem zH.size {ls : Array Slot} {nL : Nat} {lv : zL} (h : zH ls nL lv) : ls.size = nL := by
  obtain ⟨l0, h1, -⟩ := h
  exact h1.1
theorem zH.at {ls : Array Slot} {nL : Nat} {lv : zL} {i : Nat} {v : Value} (h : zH ls nL lv) (hv : lv.lookup i = some v) : ls[i]? = some (.val v) := by
  obtain ⟨l0, h1, h2⟩ := h
  exact h1.2.2 (i, v) (h2 i v hv).1
theorem zH.sub {ls : Array Slot} {nL : Nat} {lv lv' : zL} (h : zH ls nL lv) (hs : ∀ (i : Nat) (v : Value), lv'.lookup i = some v → lv.lookup i = some v) : zH ls nL lv' := by
  obtain ⟨l0, h1, h2⟩ := h
  exact ⟨l0, h1, fun i v hv => h2 i v (hs i v hv)⟩
theorem zH.set {ls' : Array Slot} {nL : Nat} {lv l0 : zL} {i : Nat} {v : Value} (hc : v.category = 1) (h' : lv_has ls' nL ((i, v) :: l0.filter (fun q => !(q.1 == i) && !(q.1 + 1 == i && q.2.category == 2)))) (h2 : ∀ (j : Nat) (u : Value), lv.lookup j = some u → (j, u) ∈ l0 ∧ u.category = 1) : zH ls' nL ((i, v) :: lv) := by
  refine ⟨_, h', fun j u hu => ?_⟩
  rw [List.lookup_cons] at hu
  by_cases hj : j = i
  · subst hj
    simp at hu
    subst hu
    exact ⟨List.mem_cons_self, hc⟩
  · have hji : (j == i) = false := by simpa using hj
    rw [hji] at hu
    obtain ⟨a, b⟩ := h2 j u hu
    refine ⟨List.mem_cons_of_mem _ (List.mem_filter.mpr ⟨a, ?_⟩), b⟩
    simp [hj, b]
theorem z_lookup_mem : ∀ (lv : zL) (i : Nat) (v : Value), lv.lookup i = some v → (i, v) ∈ lv
  | [], i, v, h => by simp at h
  | (j, u) :: lv, i, v, h => by
    rw [List.lookup_cons] at h
    by_cases hj : i = j
    · subst hj
      simp at h
      subst h
      exact List.mem_cons_self
    · have hji : (i == j) = false := by simpa using hj
      rw [hji] at h
      exact List.mem_cons_of_mem _ (z_lookup_mem lv i v h)
/-- some of the locals, by their numbers -/
def zpick (lv : zL) (ks : List Nat) : zL := ks.filterMap (fun i => (lv.lookup i).map (fun v => (i, v)))
theorem zpick_ok (lv : zL) : ∀ (ks : List Nat) (i : Nat) (v : Value), (zpick lv ks).lookup i = some v → lv.lookup i = some v := by
  intro ks i v h
  have h1 := z_lookup_mem _ i v h
  obtain ⟨k, -, hk⟩ := List.mem_filterMap.mp h1
  cases hl : lv.lookup k with
  | none => rw [hl] at hk; cases hk
  | some u =>
    rw [hl] at hk
    simp only [Option.map_some, Option.some.injEq, Prod.mk.injEq] at hk
    obtain ⟨rfl, rfl⟩ := hk
    exact hl
/-- what a method has at hand throughout its walk -/
def zC (p : Program) (s : State) (m : MethodId) (args : Array Value) (meth : Method) (c : Code) (cc : ByteArray) (nL : Nat) (own : String) (D : va_G) (dA : Nat → ClassId) : Prop :=
  p.tables.exec = Jvm.exec ∧ c.code = cc ∧ c.maxLocals = nL ∧ s.vm.findClass own = some m.cls ∧ (∀ w ∈ zT, w.before args s = true) ∧ zKK D dA s ∧ meth.locks = false
/-- the frame at pc, with locals and stack, in every heap of size n that holds the world w -/
def zz (p : Program) (l : Launch) (e : Env) (R : Room) (s : State) (m : MethodId) (args : Array Value) (below : List Frame) (meth : Method) (c : Code) (D : va_G) (A : Nat → Prop) (nL : Nat) (Q : State → Prop) (w : zW) (n kc ks pc : Nat) (lv : zL) (st : List Value) : Prop :=
  ∀ (H : Heap) (locs : List Loc) (ls : Array Slot), H.size = n → zP D w H → va_S A s.heap H locs → zH ls nL lv → W p l e R s m args below meth c H locs kc ks Q (F0 m pc ls st)
/-- a method's end: its answer, its world, the heap's size -/
def zQ (D : va_G) (A : Nat → Prop) (r : Option Value) (w' : zW) (n' : Nat) : Array Value → State → Outcome → State → Prop := fun _ st oc t => oc = .returned r ∧ zP D w' t.heap ∧ t.heap.size = n' ∧ va_F A st t
/-- a method's contract -/
def zM (l : Launch) (y : MethodName) (bytes : ByteArray) (maxL : Nat) (ret : Option FieldType) (rm : Room) (D : va_G) (dA : Nat → ClassId) (A : Nat → Prop) (av : List Value) (w : zW) (n : Nat) (r : Option Value) (w' : zW) (n' mc ms : Nat) : Prop :=
  Met l y (.code y bytes maxL ret :: zT) rm (va_Pc av (fun U => U.heap.size = n ∧ zP D w U.heap ∧ zKK D dA U)) (zQ D A r w' n') mc ms A
abbrev zSite (y : MethodName) (n : Nat) : Prop := Cond.initialized y.cls ∈ zT ∧ y.cls ≠ "java/lang/invoke/MethodHandle" ∧ y.cls ≠ "java/lang/invoke/VarHandle" ∧ (parseMethodDescriptor y.desc).map (fun d => d.parameters.length) = some n
abbrev zSiteV (own : String) (idx : Nat) (y : MethodName) (n : Nat) : Prop := (Cond.methodLink own idx y ∈ zT ∧ Cond.instanceMethod y ∈ zT ∧ Cond.selects y.cls y y ∈ zT) ∧ zSite y n
abbrev zSiteVN (own : String) (idx : Nat) (y : MethodName) (host : String) (n : Nat) : Prop := (Cond.methodLinkNest own idx y host ∈ zN ∧ Cond.instanceMethod y ∈ zT ∧ Cond.selects y.cls y y ∈ zT) ∧ zSite y n
abbrev zSiteS (own : String) (idx : Nat) (y : MethodName) (n : Nat) : Prop := (Cond.methodLink own idx y ∈ zT ∧ Cond.static y ∈ zT) ∧ zSite y n
abbrev zSiteI (own : String) (idx : Nat) (y : MethodName) (n : Nat) : Prop := (Cond.methodLink own idx y ∈ zT ∧ Cond.instanceMethod y ∈ zT ∧ y.name = "<init>") ∧ zSite y n
abbrev zSiteIN (own : String) (idx : Nat) (y : MethodName) (host : String) (n : Nat) : Prop := (Cond.methodLinkNest own idx y host ∈ zN ∧ Cond.instanceMethod y ∈ zT ∧ y.name = "<init>") ∧ zSite y n
section ZZ
variable {p : Program} {l : Launch} {e : Env} {R : Room} {s : State} {m : MethodId} {args : Array Value} {below : List Frame} {meth : Method} {c : Code} {cc : ByteArray} {nL : Nat} {own : String} {D : va_G} {dA : Nat → ClassId} {A : Nat → Prop} {Q : State → Prop} {w : zW} {n kc ks pc : Nat} {lv : zL} {st : List Value}
theorem zz_mono {w' : zW} (h : ∀ (q : Nat) (e : va_E), w' q = some e → w q = some e) (k : zz p l e R s m args below meth c D A nL Q w' n kc ks pc lv st) : zz p l e R s m args below meth c D A nL Q w n kc ks pc lv st := fun H locs ls hn hP hS hL => k H locs ls hn (fun q e hq => hP q e (h q e hq)) hS hL
theorem zz_lv (js : List Nat) {lv' : zL} (h : zpick lv js = lv') (k : zz p l e R s m args below meth c D A nL Q w n kc ks pc lv' st) : zz p l e R s m args below meth c D A nL Q w n kc ks pc lv st := fun H locs ls hn hP hS hL => k H locs ls hn hP hS (hL.sub (fun i v hv => zpick_ok lv js i v (by rw [h]; exact hv)))
theorem zz_wide {kc' ks' : Nat} (h1 : kc ≤ kc') (h2 : ks ≤ ks') (k : zz p l e R s m args below meth c D A nL Q w n kc' ks' pc lv st) : zz p l e R s m args below meth c D A nL Q w n kc ks pc lv st := fun H locs ls hn hP hS hL => W.widen h1 h2 (k H locs ls hn hP hS hL)
theorem zz_topi {x : Int32} (k : ∀ y : Int32, y = x → zz p l e R s m args below meth c D A nL Q w n kc ks pc lv (.int y :: st)) : zz p l e R s m args below meth c D A nL Q w n kc ks pc lv (.int x :: st) := k x rfl
theorem zz_iconst (C : zC p s m args meth c cc nL own D dA) {i : Int} {x : Int32} (hd : decode cc pc = .ok (.iconst i, 1)) (hv : Int32.ofInt i = x) (k : zz p l e R s m args below meth c D A nL Q w n kc ks (pc + 1) lv (.int x :: st)) : zz p l e R s m args below meth c D A nL Q w n kc ks pc lv st := fun H locs ls hn hP hS hL => lv_iconst C.1 C.2.1 hd hv (k H locs ls hn hP hS hL)
theorem zz_bipush (C : zC p s m args meth c cc nL own D dA) {i : Int} {x : Int32} (hd : decode cc pc = .ok (.bipush i, 2)) (hv : (Int8.ofInt i).toInt32 = x) (k : zz p l e R s m args below meth c D A nL Q w n kc ks (pc + 2) lv (.int x :: st)) : zz p l e R s m args below meth c D A nL Q w n kc ks pc lv st := fun H locs ls hn hP hS hL => lv_bipush C.1 C.2.1 hd hv (k H locs ls hn hP hS hL)
theorem zz_sipush (C : zC p s m args meth c cc nL own D dA) {i : Int} {x : Int32} (hd : decode cc pc = .ok (.sipush i, 3)) (hv : (Int16.ofInt i).toInt32 = x) (k : zz p l e R s m args below meth c D A nL Q w n kc ks (pc + 3) lv (.int x :: st)) : zz p l e R s m args below meth c D A nL Q w n kc ks pc lv st := fun H locs ls hn hP hS hL => lv_sipush C.1 C.2.1 hd hv (k H locs ls hn hP hS hL)
theorem zz_ldc (C : zC p s m args meth c cc nL own D dA) {i : Nat} {x : Int32} (hc : Cond.constant own i x ∈ zT) (hd : decode cc pc = .ok (.ldc i, 2)) (k : zz p l e R s m args below meth c D A nL Q w n kc ks (pc + 2) lv (.int x :: st)) : zz p l e R s m args below meth c D A nL Q w n kc ks pc lv st := fun H locs ls hn hP hS hL => lv_ldc C.1 C.2.1 C.2.2.2.1 (C.2.2.2.2.1 _ hc) hd (k H locs ls hn hP hS hL)
theorem zz_iload_n (C : zC p s m args meth c cc nL own D dA) {j : Fin 4} {x : Int32} (hd : decode cc pc = .ok (.iload_n j, 1)) (hv : lv.lookup (j : Nat) = some (.int x)) (k : zz p l e R s m args below meth c D A nL Q w n kc ks (pc + 1) lv (.int x :: st)) : zz p l e R s m args below meth c D A nL Q w n kc ks pc lv st := fun H locs ls hn hP hS hL => lv_iload_n C.1 C.2.1 hd rfl (hL.at hv) (k H locs ls hn hP hS hL)
theorem zz_iload (C : zC p s m args meth c cc nL own D dA) {i : Nat} {x : Int32} (hd : decode cc pc = .ok (.iload i, 2)) (hv : lv.lookup i = some (.int x)) (k : zz p l e R s m args below meth c D A nL Q w n kc ks (pc + 2) lv (.int x :: st)) : zz p l e R s m args below meth c D A nL Q w n kc ks pc lv st := fun H locs ls hn hP hS hL => lv_iload C.1 C.2.1 hd (hL.at hv) (k H locs ls hn hP hS hL)
theorem zz_istore_n (C : zC p s m args meth c cc nL own D dA) {j : Fin 4} {x : Int32} (hd : decode cc pc = .ok (.istore_n j, 1)) (hi : (j : Nat) < nL) (k : zz p l e R s m args below meth c D A nL Q w n kc ks (pc + 1) (((j : Nat), Value.int x) :: lv) st) : zz p l e R s m args below meth c D A nL Q w n kc ks pc lv (.int x :: st) := by
  intro H locs ls hn hP hS hL
  obtain ⟨l0, h1, h2⟩ := hL
  exact lv_istore_n C.1 C.2.1 hd rfl h1 hi rfl (fun ls' h' => k H locs ls' hn hP hS (zH.set rfl h' h2))
theorem zz_istore (C : zC p s m args meth c cc nL own D dA) {i : Nat} {x : Int32} (hd : decode cc pc = .ok (.istore i, 2)) (hi : i < nL) (k : zz p l e R s m args below meth c D A nL Q w n kc ks (pc + 2) ((i, Value.int x) :: lv) st) : zz p l e R s m args below meth c D A nL Q w n kc ks pc lv (.int x :: st) := by
  intro H locs ls hn hP hS hL
  obtain ⟨l0, h1, h2⟩ := hL
  exact lv_istore C.1 C.2.1 hd h1 hi rfl (fun ls' h' => k H locs ls' hn hP hS (zH.set rfl h' h2))
theorem zz_aload_n (C : zC p s m args meth c cc nL own D dA) {j : Fin 4} {x : Nat} (hd : decode cc pc = .ok (.aload_n j, 1)) (hv : lv.lookup (j : Nat) = some (.ref x)) (k : zz p l e R s m args below meth c D A nL Q w n kc ks (pc + 1) lv (.ref x :: st)) : zz p l e R s m args below meth c D A nL Q w n kc ks pc lv st := fun H locs ls hn hP hS hL => lv_aload_n C.1 C.2.1 hd rfl (hL.at hv) (k H locs ls hn hP hS hL)
theorem zz_aload (C : zC p s m args meth c cc nL own D dA) {i : Nat} {x : Nat} (hd : decode cc pc = .ok (.aload i, 2)) (hv : lv.lookup i = some (.ref x)) (k : zz p l e R s m args below meth c D A nL Q w n kc ks (pc + 2) lv (.ref x :: st)) : zz p l e R s m args below meth c D A nL Q w n kc ks pc lv st := fun H locs ls hn hP hS hL => lv_aload C.1 C.2.1 hd (hL.at hv) (k H locs ls hn hP hS hL)
theorem zz_astore_n (C : zC p s m args meth c cc nL own D dA) {j : Fin 4} {x : Nat} (hd : decode cc pc = .ok (.astore_n j, 1)) (hi : (j : Nat) < nL) (k : zz p l e R s m args below meth c D A nL Q w n kc ks (pc + 1) (((j : Nat), Value.ref x) :: lv) st) : zz p l e R s m args below meth c D A nL Q w n kc ks pc lv (.ref x :: st) := by
  intro H locs ls hn hP hS hL
  obtain ⟨l0, h1, h2⟩ := hL
  exact lv_astore_n C.1 C.2.1 hd rfl h1 hi rfl (fun ls' h' => k H locs ls' hn hP hS (zH.set rfl h' h2))
theorem zz_astore (C : zC p s m args meth c cc nL own D dA) {i : Nat} {x : Nat} (hd : decode cc pc = .ok (.astore i, 2)) (hi : i < nL) (k : zz p l e R s m args below meth c D A nL Q w n kc ks (pc + 2) ((i, Value.ref x) :: lv) st) : zz p l e R s m args below meth c D A nL Q w n kc ks pc lv (.ref x :: st) := by
  intro H locs ls hn hP hS hL
  obtain ⟨l0, h1, h2⟩ := hL
  exact lv_astore C.1 C.2.1 hd h1 hi rfl (fun ls' h' => k H locs ls' hn hP hS (zH.set rfl h' h2))
theorem zz_iinc (C : zC p s m args meth c cc nL own D dA) {i : Nat} {d : Int} {x d' : Int32} (hd : decode cc pc = .ok (.iinc i d, 3)) (hx : lv.lookup i = some (.int x)) (hv : Int32.ofInt d = d') (hi : i < nL) (k : zz p l e R s m args below meth c D A nL Q w n kc ks (pc + 3) ((i, Value.int (x + d')) :: lv) st) : zz p l e R s m args below meth c D A nL Q w n kc ks pc lv st := by
  intro H locs ls hn hP hS hL
  obtain ⟨l0, h1, h2⟩ := hL
  obtain ⟨k0, hk0⟩ := List.getElem?_of_mem (h2 i _ hx).1
  exact lv_iinc C.1 C.2.1 hd h1 hk0 (by rw [hv]) hi rfl (fun ls' h' => k H locs ls' hn hP hS (zH.set rfl h' h2))
theorem zz_iadd (C : zC p s m args meth c cc nL own D dA) {x y : Int32} (hd : decode cc pc = .ok (.iadd, 1)) (k : zz p l e R s m args below meth c D A nL Q w n kc ks (pc + 1) lv (.int (x + y) :: st)) : zz p l e R s m args below meth c D A nL Q w n kc ks pc lv (.int y :: .int x :: st) := fun H locs ls hn hP hS hL => lv_iadd C.1 C.2.1 hd (k H locs ls hn hP hS hL)
theorem zz_isub (C : zC p s m args meth c cc nL own D dA) {x y : Int32} (hd : decode cc pc = .ok (.isub, 1)) (k : zz p l e R s m args below meth c D A nL Q w n kc ks (pc + 1) lv (.int (x - y) :: st)) : zz p l e R s m args below meth c D A nL Q w n kc ks pc lv (.int y :: .int x :: st) := fun H locs ls hn hP hS hL => lv_isub C.1 C.2.1 hd (k H locs ls hn hP hS hL)
theorem zz_imul (C : zC p s m args meth c cc nL own D dA) {x y : Int32} (hd : decode cc pc = .ok (.imul, 1)) (k : zz p l e R s m args below meth c D A nL Q w n kc ks (pc + 1) lv (.int (x * y) :: st)) : zz p l e R s m args below meth c D A nL Q w n kc ks pc lv (.int y :: .int x :: st) := fun H locs ls hn hP hS hL => lv_imul C.1 C.2.1 hd (k H locs ls hn hP hS hL)
theorem zz_iand (C : zC p s m args meth c cc nL own D dA) {x y : Int32} (hd : decode cc pc = .ok (.iand, 1)) (k : zz p l e R s m args below meth c D A nL Q w n kc ks (pc + 1) lv (.int (x &&& y) :: st)) : zz p l e R s m args below meth c D A nL Q w n kc ks pc lv (.int y :: .int x :: st) := fun H locs ls hn hP hS hL => lv_iand C.1 C.2.1 hd (k H locs ls hn hP hS hL)
theorem zz_ior (C : zC p s m args meth c cc nL own D dA) {x y : Int32} (hd : decode cc pc = .ok (.ior, 1)) (k : zz p l e R s m args below meth c D A nL Q w n kc ks (pc + 1) lv (.int (x ||| y) :: st)) : zz p l e R s m args below meth c D A nL Q w n kc ks pc lv (.int y :: .int x :: st) := fun H locs ls hn hP hS hL => lv_ior C.1 C.2.1 hd (k H locs ls hn hP hS hL)
theorem zz_ixor (C : zC p s m args meth c cc nL own D dA) {x y : Int32} (hd : decode cc pc = .ok (.ixor, 1)) (k : zz p l e R s m args below meth c D A nL Q w n kc ks (pc + 1) lv (.int (x ^^^ y) :: st)) : zz p l e R s m args below meth c D A nL Q w n kc ks pc lv (.int y :: .int x :: st) := fun H locs ls hn hP hS hL => lv_ixor C.1 C.2.1 hd (k H locs ls hn hP hS hL)
theorem zz_idiv (C : zC p s m args meth c cc nL own D dA) {x y : Int32} (hd : decode cc pc = .ok (.idiv, 1)) (hne : ¬ y = 0) (k : zz p l e R s m args below meth c D A nL Q w n kc ks (pc + 1) lv (.int (x / y) :: st)) : zz p l e R s m args below meth c D A nL Q w n kc ks pc lv (.int y :: .int x :: st) := fun H locs ls hn hP hS hL => lv_idiv C.1 C.2.1 hd hne (k H locs ls hn hP hS hL)
theorem zz_irem (C : zC p s m args meth c cc nL own D dA) {x y : Int32} (hd : decode cc pc = .ok (.irem, 1)) (hne : ¬ y = 0) (k : zz p l e R s m args below meth c D A nL Q w n kc ks (pc + 1) lv (.int (x - x / y * y) :: st)) : zz p l e R s m args below meth c D A nL Q w n kc ks pc lv (.int y :: .int x :: st) := fun H locs ls hn hP hS hL => lv_irem C.1 C.2.1 hd hne (k H locs ls hn hP hS hL)
theorem zz_ineg (C : zC p s m args meth c cc nL own D dA) {x : Int32} (hd : decode cc pc = .ok (.ineg, 1)) (k : zz p l e R s m args below meth c D A nL Q w n kc ks (pc + 1) lv (.int (-x) :: st)) : zz p l e R s m args below meth c D A nL Q w n kc ks pc lv (.int x :: st) := fun H locs ls hn hP hS hL => lv_ineg C.1 C.2.1 hd (k H locs ls hn hP hS hL)
theorem zz_dup (C : zC p s m args meth c cc nL own D dA) {v : Value} (hd : decode cc pc = .ok (.dup, 1)) (hv : v.category = 1) (k : zz p l e R s m args below meth c D A nL Q w n kc ks (pc + 1) lv (v :: v :: st)) : zz p l e R s m args below meth c D A nL Q w n kc ks pc lv (v :: st) := fun H locs ls hn hP hS hL => lv_dup C.1 C.2.1 hd hv (k H locs ls hn hP hS hL)
theorem zz_pop (C : zC p s m args meth c cc nL own D dA) {v : Value} (hd : decode cc pc = .ok (.pop, 1)) (hv : v.category = 1) (k : zz p l e R s m args below meth c D A nL Q w n kc ks (pc + 1) lv st) : zz p l e R s m args below meth c D A nL Q w n kc ks pc lv (v :: st) := fun H locs ls hn hP hS hL => lv_pop C.1 C.2.1 hd hv (k H locs ls hn hP hS hL)
theorem zz_dup_x1 (C : zC p s m args meth c cc nL own D dA) {u v : Value} (hd : decode cc pc = .ok (.dup_x1, 1)) (hu : u.category = 1) (hv : v.category = 1) (k : zz p l e R s m args below meth c D A nL Q w n kc ks (pc + 1) lv (u :: v :: u :: st)) : zz p l e R s m args below meth c D A nL Q w n kc ks pc lv (u :: v :: st) := fun H locs ls hn hP hS hL => lv_dup_x1 C.1 C.2.1 hd hu hv (k H locs ls hn hP hS hL)
theorem zz_dup2 (C : zC p s m args meth c cc nL own D dA) {u v : Value} (hd : decode cc pc = .ok (.dup2, 1)) (hu : u.category = 1) (hv : v.category = 1) (k : zz p l e R s m args below meth c D A nL Q w n kc ks (pc + 1) lv (u :: v :: u :: v :: st)) : zz p l e R s m args below meth c D A nL Q w n kc ks pc lv (u :: v :: st) := fun H locs ls hn hP hS hL => lv_dup2_11 C.1 C.2.1 hd hu hv (k H locs ls hn hP hS hL)
theorem zz_if_eq (C : zC p s m args meth c cc nL own D dA) {x : Int32} {off : Int} {tgt : Nat} (hd : decode cc pc = .ok (.ifCond .eq off, 3)) (ht : (pc : Int) + off = (tgt : Int)) (kt : x = 0 → zz p l e R s m args below meth c D A nL Q w n kc ks tgt lv st) (kf : ¬ x = 0 → zz p l e R s m args below meth c D A nL Q w n kc ks (pc + 3) lv st) : zz p l e R s m args below meth c D A nL Q w n kc ks pc lv (.int x :: st) := fun H locs ls hn hP hS hL => lv_if_eq C.1 C.2.1 hd ht (fun h => kt h H locs ls hn hP hS hL) (fun h => kf h H locs ls hn hP hS hL)
theorem zz_icmp_eq (C : zC p s m args meth c cc nL own D dA) {x y : Int32} {off : Int} {tgt : Nat} (hd : decode cc pc = .ok (.if_icmp .eq off, 3)) (ht : (pc : Int) + off = (tgt : Int)) (kt : x = y → zz p l e R s m args below meth c D A nL Q w n kc ks tgt lv st) (kf : ¬ x = y → zz p l e R s m args below meth c D A nL Q w n kc ks (pc + 3) lv st) : zz p l e R s m args below meth c D A nL Q w n kc ks pc lv (.int y :: .int x :: st) := fun H locs ls hn hP hS hL => lv_icmp_eq C.1 C.2.1 hd ht (fun h => kt h H locs ls hn hP hS hL) (fun h => kf h H locs ls hn hP hS hL)
theorem zz_if_ne (C : zC p s m args meth c cc nL own D dA) {x : Int32} {off : Int} {tgt : Nat} (hd : decode cc pc = .ok (.ifCond .ne off, 3)) (ht : (pc : Int) + off = (tgt : Int)) (kt : ¬ x = 0 → zz p l e R s m args below meth c D A nL Q w n kc ks tgt lv st) (kf : x = 0 → zz p l e R s m args below meth c D A nL Q w n kc ks (pc + 3) lv st) : zz p l e R s m args below meth c D A nL Q w n kc ks pc lv (.int x :: st) := fun H locs ls hn hP hS hL => lv_if_ne C.1 C.2.1 hd ht (fun h => kt h H locs ls hn hP hS hL) (fun h => kf h H locs ls hn hP hS hL)
theorem zz_icmp_ne (C : zC p s m args meth c cc nL own D dA) {x y : Int32} {off : Int} {tgt : Nat} (hd : decode cc pc = .ok (.if_icmp .ne off, 3)) (ht : (pc : Int) + off = (tgt : Int)) (kt : ¬ x = y → zz p l e R s m args below meth c D A nL Q w n kc ks tgt lv st) (kf : x = y → zz p l e R s m args below meth c D A nL Q w n kc ks (pc + 3) lv st) : zz p l e R s m args below meth c D A nL Q w n kc ks pc lv (.int y :: .int x :: st) := fun H locs ls hn hP hS hL => lv_icmp_ne C.1 C.2.1 hd ht (fun h => kt h H locs ls hn hP hS hL) (fun h => kf h H locs ls hn hP hS hL)
theorem zz_if_lt (C : zC p s m args meth c cc nL own D dA) {x : Int32} {off : Int} {tgt : Nat} (hd : decode cc pc = .ok (.ifCond .lt off, 3)) (ht : (pc : Int) + off = (tgt : Int)) (kt : x < 0 → zz p l e R s m args below meth c D A nL Q w n kc ks tgt lv st) (kf : ¬ x < 0 → zz p l e R s m args below meth c D A nL Q w n kc ks (pc + 3) lv st) : zz p l e R s m args below meth c D A nL Q w n kc ks pc lv (.int x :: st) := fun H locs ls hn hP hS hL => lv_if_lt C.1 C.2.1 hd ht (fun h => kt h H locs ls hn hP hS hL) (fun h => kf h H locs ls hn hP hS hL)
theorem zz_icmp_lt (C : zC p s m args meth c cc nL own D dA) {x y : Int32} {off : Int} {tgt : Nat} (hd : decode cc pc = .ok (.if_icmp .lt off, 3)) (ht : (pc : Int) + off = (tgt : Int)) (kt : x < y → zz p l e R s m args below meth c D A nL Q w n kc ks tgt lv st) (kf : ¬ x < y → zz p l e R s m args below meth c D A nL Q w n kc ks (pc + 3) lv st) : zz p l e R s m args below meth c D A nL Q w n kc ks pc lv (.int y :: .int x :: st) := fun H locs ls hn hP hS hL => lv_icmp_lt C.1 C.2.1 hd ht (fun h => kt h H locs ls hn hP hS hL) (fun h => kf h H locs ls hn hP hS hL)
theorem zz_if_ge (C : zC p s m args meth c cc nL own D dA) {x : Int32} {off : Int} {tgt : Nat} (hd : decode cc pc = .ok (.ifCond .ge off, 3)) (ht : (pc : Int) + off = (tgt : Int)) (kt : 0 ≤ x → zz p l e R s m args below meth c D A nL Q w n kc ks tgt lv st) (kf : ¬ 0 ≤ x → zz p l e R s m args below meth c D A nL Q w n kc ks (pc + 3) lv st) : zz p l e R s m args below meth c D A nL Q w n kc ks pc lv (.int x :: st) := fun H locs ls hn hP hS hL => lv_if_ge C.1 C.2.1 hd ht (fun h => kt h H locs ls hn hP hS hL) (fun h => kf h H locs ls hn hP hS hL)
theorem zz_icmp_ge (C : zC p s m args meth c cc nL own D dA) {x y : Int32} {off : Int} {tgt : Nat} (hd : decode cc pc = .ok (.if_icmp .ge off, 3)) (ht : (pc : Int) + off = (tgt : Int)) (kt : y ≤ x → zz p l e R s m args below meth c D A nL Q w n kc ks tgt lv st) (kf : ¬ y ≤ x → zz p l e R s m args below meth c D A nL Q w n kc ks (pc + 3) lv st) : zz p l e R s m args below meth c D A nL Q w n kc ks pc lv (.int y :: .int x :: st) := fun H locs ls hn hP hS hL => lv_icmp_ge C.1 C.2.1 hd ht (fun h => kt h H locs ls hn hP hS hL) (fun h => kf h H locs ls hn hP hS hL)
theorem zz_if_gt (C : zC p s m args meth c cc nL own D dA) {x : Int32} {off : Int} {tgt : Nat} (hd : decode cc pc = .ok (.ifCond .gt off, 3)) (ht : (pc : Int) + off = (tgt : Int)) (kt : 0 < x → zz p l e R s m args below meth c D A nL Q w n kc ks tgt lv st) (kf : ¬ 0 < x → zz p l e R s m args below meth c D A nL Q w n kc ks (pc + 3) lv st) : zz p l e R s m args below meth c D A nL Q w n kc ks pc lv (.int x :: st) := fun H locs ls hn hP hS hL => lv_if_gt C.1 C.2.1 hd ht (fun h => kt h H locs ls hn hP hS hL) (fun h => kf h H locs ls hn hP hS hL)
theorem zz_icmp_gt (C : zC p s m args meth c cc nL own D dA) {x y : Int32} {off : Int} {tgt : Nat} (hd : decode cc pc = .ok (.if_icmp .gt off, 3)) (ht : (pc : Int) + off = (tgt : Int)) (kt : y < x → zz p l e R s m args below meth c D A nL Q w n kc ks tgt lv st) (kf : ¬ y < x → zz p l e R s m args below meth c D A nL Q w n kc ks (pc + 3) lv st) : zz p l e R s m args below meth c D A nL Q w n kc ks pc lv (.int y :: .int x :: st) := fun H locs ls hn hP hS hL => lv_icmp_gt C.1 C.2.1 hd ht (fun h => kt h H locs ls hn hP hS hL) (fun h => kf h H locs ls hn hP hS hL)
theorem zz_if_le (C : zC p s m args meth c cc nL own D dA) {x : Int32} {off : Int} {tgt : Nat} (hd : decode cc pc = .ok (.ifCond .le off, 3)) (ht : (pc : Int) + off = (tgt : Int)) (kt : x ≤ 0 → zz p l e R s m args below meth c D A nL Q w n kc ks tgt lv st) (kf : ¬ x ≤ 0 → zz p l e R s m args below meth c D A nL Q w n kc ks (pc + 3) lv st) : zz p l e R s m args below meth c D A nL Q w n kc ks pc lv (.int x :: st) := fun H locs ls hn hP hS hL => lv_if_le C.1 C.2.1 hd ht (fun h => kt h H locs ls hn hP hS hL) (fun h => kf h H locs ls hn hP hS hL)
theorem zz_icmp_le (C : zC p s m args meth c cc nL own D dA) {x y : Int32} {off : Int} {tgt : Nat} (hd : decode cc pc = .ok (.if_icmp .le off, 3)) (ht : (pc : Int) + off = (tgt : Int)) (kt : x ≤ y → zz p l e R s m args below meth c D A nL Q w n kc ks tgt lv st) (kf : ¬ x ≤ y → zz p l e R s m args below meth c D A nL Q w n kc ks (pc + 3) lv st) : zz p l e R s m args below meth c D A nL Q w n kc ks pc lv (.int y :: .int x :: st) := fun H locs ls hn hP hS hL => lv_icmp_le C.1 C.2.1 hd ht (fun h => kt h H locs ls hn hP hS hL) (fun h => kf h H locs ls hn hP hS hL)
theorem zz_goto (C : zC p s m args meth c cc nL own D dA) {off : Int} {tgt : Nat} (hd : decode cc pc = .ok (.goto off, 3)) (ht : (pc : Int) + off = (tgt : Int)) (k : zz p l e R s m args below meth c D A nL Q w n kc ks tgt lv st) : zz p l e R s m args below meth c D A nL Q w n kc ks pc lv st := fun H locs ls hn hP hS hL => lv_goto C.1 C.2.1 hd ht (k H locs ls hn hP hS hL)
theorem zz_tableOut (C : zC p s m args meth c cc nL own D dA) {dflt lo hi : Int} {offs : Array Int} {len : Nat} {x : Int32} {tgt : Nat} (hd : decode cc pc = .ok (.tableswitch dflt lo hi offs, len)) (h : x.toInt < lo ∨ hi < x.toInt) (ht : (pc : Int) + dflt = (tgt : Int)) (k : zz p l e R s m args below meth c D A nL Q w n kc ks tgt lv st) : zz p l e R s m args below meth c D A nL Q w n kc ks pc lv (.int x :: st) := fun H locs ls hn hP hS hL => lv_tableOut C.1 C.2.1 hd h ht (k H locs ls hn hP hS hL)
theorem zz_tableIn (C : zC p s m args meth c cc nL own D dA) {dflt lo hi : Int} {offs : Array Int} {len : Nat} {x : Int32} {off : Int} {tgt : Nat} (hd : decode cc pc = .ok (.tableswitch dflt lo hi offs, len)) (h1 : ¬ x.toInt < lo) (h2 : ¬ hi < x.toInt) (ho : offs[(x.toInt - lo).toNat]? = some off) (ht : (pc : Int) + off = (tgt : Int)) (k : zz p l e R s m args below meth c D A nL Q w n kc ks tgt lv st) : zz p l e R s m args below meth c D A nL Q w n kc ks pc lv (.int x :: st) := fun H locs ls hn hP hS hL => lv_tableIn C.1 C.2.1 hd h1 h2 ho ht (k H locs ls hn hP hS hL)
theorem zP.one {H : Heap} {a : Nat} {e : va_E} (h : zP D w H) (ha : w a = some e) : va_P D classes [(a, e)] H := by
  intro k q hk
  have hz : k < 1 := (List.getElem?_eq_some_iff.mp hk).1
  rw [show k = 0 by omega] at hk
  cases hk
  exact h a e ha
theorem zP.up {H H1 : Heap} {a : Nat} {e : va_E} (h : zP D w H) (he : va_at D classes (a, e) H1) (oq : ∀ q : Nat, q ≠ a → H1[q]? = H[q]?) : zP D (va_up w a (some e)) H1 := by
  intro q e' hq
  by_cases hqa : q = a
  · subst hqa
    rw [va_up_self] at hq
    cases hq
    exact he
  · rw [va_up_ne _ _ hqa] at hq
    exact (h q e' hq).kept (oq q hqa)
theorem zP.push {H H1 : Heap} {a : Nat} {e : va_E} (h : zP D w H) (ha : H.size = a) (he : va_at D classes (a, e) H1) (oq : ∀ q : Nat, q < a → H1[q]? = H[q]?) : zP D (va_up w a (some e)) H1 := by
  intro q e' hq
  by_cases hqa : q = a
  · subst hqa
    rw [va_up_self] at hq
    cases hq
    exact he
  · rw [va_up_ne _ _ hqa] at hq
    have hl : q < H.size := (h q e' hq).lt
    exact (h q e' hq).kept (oq q (by omega))
theorem zz_get (C : zC p s m args meth c cc nL own D dA) {Cn : String} {T : u_T} {N ci index a : Nat} {fs : List Value} {v : Value} (k0 : Nat) (hc : classes[ci]? = some (Cn, T, N)) (hin : ∀ w ∈ u_ws Cn T N, w ∈ zT) (hk : k0 < N) (hl : Cond.fieldLink own index (T k0).1 (T k0).2.1 (T k0).2.2.1 ∈ zT) (ha : w a = some (.inr (ci, fs))) (hv : fs[k0]? = some v) (hd : decode cc pc = .ok (.getfield index, 3)) (k : zz p l e R s m args below meth c D A nL Q w n kc ks (pc + 3) lv (v :: st)) : zz p l e R s m args below meth c D A nL Q w n kc ks pc lv (.ref a :: st) := fun H locs ls hn hP hS hL => va_get C.1 C.2.1 C.2.2.2.2.1 hin C.2.2.2.1 C.2.2.2.2.2.1.1 (hP.one ha) 0 rfl hc k0 hk (C.2.2.2.2.1 _ hl) (fun _ h9 => h9) hv hd (k H locs ls hn hP hS hL)
theorem zz_getN (C : zC p s m args meth c cc nL own D dA) {Cn host : String} {T : u_T} {N ci index a : Nat} {fs : List Value} {v : Value} (k0 : Nat) (hc : classes[ci]? = some (Cn, T, N)) (hin : ∀ w ∈ u_ws Cn T N, w ∈ zT) (hk : k0 < N) (hl : Cond.fieldLinkNest own index (T k0).1 (T k0).2.1 (T k0).2.2.1 host ∈ zN) (ha : w a = some (.inr (ci, fs))) (hv : fs[k0]? = some v) (hd : decode cc pc = .ok (.getfield index, 3)) (k : zz p l e R s m args below meth c D A nL Q w n kc ks (pc + 3) lv (v :: st)) : zz p l e R s m args below meth c D A nL Q w n kc ks pc lv (.ref a :: st) := fun H locs ls hn hP hS hL => va_getN C.1 C.2.1 C.2.2.2.2.1 hin C.2.2.2.1 C.2.2.2.2.2.1.1 (hP.one ha) 0 rfl hc k0 hk (C.2.2.2.2.2.1.nest hl) (fun _ h9 => h9) hv hd (k H locs ls hn hP hS hL)
theorem zz_put (C : zC p s m args meth c cc nL own D dA) {Cn : String} {T : u_T} {N ci index a : Nat} {fs : List Value} {v : Value} {ty : FieldType} (k0 : Nat) (hc : classes[ci]? = some (Cn, T, N)) (hin : ∀ w ∈ u_ws Cn T N, w ∈ zT) (ty0 : Nat → FieldType) (hty : ∀ k, k < N → parseFieldDescriptor (T k).2.2.1 = some (ty0 k)) (hnm : ∀ a, a < N → ∀ b, b < N → a ≠ b → (T a).2.1 ≠ (T b).2.1) (hk : k0 < N) (hl : Cond.fieldLink own index (T k0).1 (T k0).2.1 (T k0).2.2.1 ∈ zT) (hfin : (T k0).2.2.2 = false) (hty1 : ty0 k0 = ty) (hna : narrow ty v = v) (hfit : fits ty v = true) (hlen : k0 < fs.length) (ha : w a = some (.inr (ci, fs))) (hA : A a) (hd : decode cc pc = .ok (.putfield index, 3)) (k : zz p l e R s m args below meth c D A nL Q (va_up w a (some (.inr (ci, fs.set k0 v)))) n kc ks (pc + 3) lv st) : zz p l e R s m args below meth c D A nL Q w n kc ks pc lv (v :: .ref a :: st) := by
  intro H locs ls hn hP hS hL
  have hK : va_K D classes (zTy dA) s := C.2.2.2.2.2.1.1
  have hts := C.2.2.2.2.1
  have hap := va_apart (own := own) hts hin ty0 hty hnm hK hc
  obtain ⟨r, h1, cell, q1, q2, q3, q4⟩ := hP a _ ha
  have hr : r = (Cn, T, N) := Option.some.inj (h1.symm.trans hc)
  subst hr
  obtain ⟨hSl, hfc, kC, hkC, hkind⟩ := hK.1 ci _ hc
  obtain ⟨cf, kf, fi, f, hi, hsl⟩ := hSl k0 hk
  have hlay := hts _ (hin _ (u_in_lay hk))
  unfold u_lay at hlay
  have hst := (u_facts hfc hkC (u_lays hts hin hk) hi).1
  have hdd : parseFieldDescriptor (T k0).2.2.1 = some ty := by rw [← hty1]; exact hty k0 hk
  rw [if_neg (by rw [hfin]; decide)] at hlay
  have h6 := u_store hfc hkC hkind hlay hi hdd hna hfit
  refine W.putK C.1 C.2.1 (f := f) ⟨C.2.2.2.1, hts _ hl, ⟨_, _, _, hi⟩, hst⟩ (by rw [q2]; exact h6) q1 q3 (by rw [hsl]; exact k2_hasslot (q4 k0 hk)) rfl rfl hd fun H' e1 e2 e3 => ?_
  rw [hsl] at e1 ⊢
  exact k H' _ ls (e2.trans hn) (hP.up ⟨_, hc, t_OB.to (V := updV (vp_V fs) k0 v) ⟨_, e1, q2, q3, t_set q4 hap hk v⟩ (fun j _ => vp_updV_set hlen v j)⟩ e3) (hS.put e2 e3 hA) hL
theorem zz_putF (C : zC p s m args meth c cc nL own D dA) {Cn : String} {T : u_T} {N ci index a : Nat} {fs : List Value} {v : Value} {ty : FieldType} (k0 : Nat) (hc : classes[ci]? = some (Cn, T, N)) (hin : ∀ w ∈ u_ws Cn T N, w ∈ zT) (ty0 : Nat → FieldType) (hty : ∀ k, k < N → parseFieldDescriptor (T k).2.2.1 = some (ty0 k)) (hnm : ∀ a, a < N → ∀ b, b < N → a ≠ b → (T a).2.1 ≠ (T b).2.1) (hk : k0 < N) (hl : Cond.fieldLink own index (T k0).1 (T k0).2.1 (T k0).2.2.1 ∈ zT) (hfin : (T k0).2.2.2 = true) (hin2 : meth.name = "<init>") (hdecl : (T k0).1 = own) (hty1 : ty0 k0 = ty) (hna : narrow ty v = v) (hfit : fits ty v = true) (hlen : k0 < fs.length) (ha : w a = some (.inr (ci, fs))) (hA : A a) (hd : decode cc pc = .ok (.putfield index, 3)) (k : zz p l e R s m args below meth c D A nL Q (va_up w a (some (.inr (ci, fs.set k0 v)))) n kc ks (pc + 3) lv st) : zz p l e R s m args below meth c D A nL Q w n kc ks pc lv (v :: .ref a :: st) := by
  intro H locs ls hn hP hS hL
  have hK : va_K D classes (zTy dA) s := C.2.2.2.2.2.1.1
  have hts := C.2.2.2.2.1
  have hap := va_apart (own := own) hts hin ty0 hty hnm hK hc
  obtain ⟨r, h1, cell, q1, q2, q3, q4⟩ := hP a _ ha
  have hr : r = (Cn, T, N) := Option.some.inj (h1.symm.trans hc)
  subst hr
  obtain ⟨hSl, hfc, kC, hkC, hkind⟩ := hK.1 ci _ hc
  obtain ⟨cf, kf, fi, f, hi, hsl⟩ := hSl k0 hk
  have hlay := hts _ (hin _ (u_in_lay hk))
  unfold u_lay at hlay
  have hst := (u_facts hfc hkC (u_lays hts hin hk) hi).1
  have hdd : parseFieldDescriptor (T k0).2.2.1 = some ty := by rw [← hty1]; exact hty k0 hk
  rw [if_pos hfin] at hlay
  have hcf : m.cls = cf := by
    obtain ⟨_, _, c', _, _, _, -, -, hf', -, -, -, hown2, -⟩ := Cond.laysFinal_spec hlay
    have e1 : c' = cf := by have := hi.symm.trans hf'; simp at this; exact this.1.symm
    rw [hdecl] at hown2
    rw [← e1]; exact Option.some.inj (C.2.2.2.1.symm.trans hown2)
  have h6 := u_fits hfc hkC hkind (Or.inr hlay) hi hdd hna hfit
  refine W.putFinK C.1 C.2.1 C.2.2.2.1 (hts _ hl) hi hst hcf hin2 (by rw [q2]; exact h6) q1 q3 (by rw [hsl]; exact k2_hasslot (q4 k0 hk)) rfl rfl hd fun H' e1 e2 e3 => ?_
  rw [hsl] at e1 ⊢
  exact k H' _ ls (e2.trans hn) (hP.up ⟨_, hc, t_OB.to (V := updV (vp_V fs) k0 v) ⟨_, e1, q2, q3, t_set q4 hap hk v⟩ (fun j _ => vp_updV_set hlen v j)⟩ e3) (hS.put e2 e3 hA) hL
theorem zz_putN (C : zC p s m args meth c cc nL own D dA) {Cn host : String} {T : u_T} {N ci index a : Nat} {fs : List Value} {v : Value} {ty : FieldType} (k0 : Nat) (hc : classes[ci]? = some (Cn, T, N)) (hin : ∀ w ∈ u_ws Cn T N, w ∈ zT) (ty0 : Nat → FieldType) (hty : ∀ k, k < N → parseFieldDescriptor (T k).2.2.1 = some (ty0 k)) (hnm : ∀ a, a < N → ∀ b, b < N → a ≠ b → (T a).2.1 ≠ (T b).2.1) (hk : k0 < N) (hl : Cond.fieldLinkNest own index (T k0).1 (T k0).2.1 (T k0).2.2.1 host ∈ zN) (hfin : (T k0).2.2.2 = false) (hty1 : ty0 k0 = ty) (hna : narrow ty v = v) (hfit : fits ty v = true) (hlen : k0 < fs.length) (ha : w a = some (.inr (ci, fs))) (hA : A a) (hd : decode cc pc = .ok (.putfield index, 3)) (k : zz p l e R s m args below meth c D A nL Q (va_up w a (some (.inr (ci, fs.set k0 v)))) n kc ks (pc + 3) lv st) : zz p l e R s m args below meth c D A nL Q w n kc ks pc lv (v :: .ref a :: st) := by
  intro H locs ls hn hP hS hL
  have hK : va_K D classes (zTy dA) s := C.2.2.2.2.2.1.1
  have hts := C.2.2.2.2.1
  have hap := va_apart (own := own) hts hin ty0 hty hnm hK hc
  obtain ⟨r, h1, cell, q1, q2, q3, q4⟩ := hP a _ ha
  have hr : r = (Cn, T, N) := Option.some.inj (h1.symm.trans hc)
  subst hr
  obtain ⟨hSl, hfc, kC, hkC, hkind⟩ := hK.1 ci _ hc
  obtain ⟨cf, kf, fi, f, hi, hsl⟩ := hSl k0 hk
  have hlay := hts _ (hin _ (u_in_lay hk))
  unfold u_lay at hlay
  have hst := (u_facts hfc hkC (u_lays hts hin hk) hi).1
  have hdd : parseFieldDescriptor (T k0).2.2.1 = some ty := by rw [← hty1]; exact hty k0 hk
  rw [if_neg (by rw [hfin]; decide)] at hlay
  have h6 := u_store hfc hkC hkind hlay hi hdd hna hfit
  refine va_WputK C.1 C.2.1 (f := f) C.2.2.2.1 (C.2.2.2.2.2.1.nest hl) hi hst (by rw [q2]; exact h6) q1 q3 (by rw [hsl]; exact k2_hasslot (q4 k0 hk)) rfl rfl hd fun H' e1 e2 e3 => ?_
  rw [hsl] at e1 ⊢
  exact k H' _ ls (e2.trans hn) (hP.up ⟨_, hc, t_OB.to (V := updV (vp_V fs) k0 v) ⟨_, e1, q2, q3, t_set q4 hap hk v⟩ (fun j _ => vp_updV_set hlen v j)⟩ e3) (hS.put e2 e3 hA) hL
theorem zz_iald (C : zC p s m args meth c cc nL own D dA) {a N t0 : Nat} {f : Nat → Int32} {i : Int32} {cA : ClassId} (ht : (zTy dA)[t0]? = some (cA, .int)) (ha : w a = some (.inl (cA, N, .inl f))) (hi : vp_in i N) (hd : decode cc pc = .ok (.iaload, 1)) (k : zz p l e R s m args below meth c D A nL Q w n kc ks (pc + 1) lv (.int (f i.toNatClampNeg) :: st)) : zz p l e R s m args below meth c D A nL Q w n kc ks pc lv (.int i :: .ref a :: st) := fun H locs ls hn hP hS hL => va_iald C.1 C.2.1 C.2.2.2.2.2.1.1 (hP.one ha) 0 t0 rfl ht hi hd (k H locs ls hn hP hS hL)
theorem zz_zald (C : zC p s m args meth c cc nL own D dA) {a N t0 : Nat} {f : Nat → Int32} {i : Int32} {cA : ClassId} (ht : (zTy dA)[t0]? = some (cA, .boolean)) (ha : w a = some (.inl (cA, N, .inl f))) (hi : vp_in i N) (hd : decode cc pc = .ok (.baload, 1)) (k : zz p l e R s m args below meth c D A nL Q w n kc ks (pc + 1) lv (.int (f i.toNatClampNeg) :: st)) : zz p l e R s m args below meth c D A nL Q w n kc ks pc lv (.int i :: .ref a :: st) := fun H locs ls hn hP hS hL => va_zald C.1 C.2.1 C.2.2.2.2.2.1.1 (hP.one ha) 0 t0 rfl ht hi hd (k H locs ls hn hP hS hL)
theorem zz_aald (C : zC p s m args meth c cc nL own D dA) {a N t0 : Nat} {f : Nat → Option Nat} {i : Int32} {cA : ClassId} {Cn : String} {v : Nat} (ht : (zTy dA)[t0]? = some (cA, .object Cn)) (ha : w a = some (.inl (cA, N, .inr (.inr (.inr (.inr f)))))) (hi : vp_in i N) (hv : i.toNatClampNeg < N → f i.toNatClampNeg = some v) (hd : decode cc pc = .ok (.aaload, 1)) (k : i.toNatClampNeg < N → zz p l e R s m args below meth c D A nL Q w n kc ks (pc + 1) lv (.ref v :: st)) : zz p l e R s m args below meth c D A nL Q w n kc ks pc lv (.int i :: .ref a :: st) := fun H locs ls hn hP hS hL => va_aldq C.1 C.2.1 C.2.2.2.2.2.1.1 (hP.one ha) 0 t0 rfl ht hi hd (by rw [hv (Nat.not_le.mp fun q => hi (Or.inr q))]; exact (k (Nat.not_le.mp fun q => hi (Or.inr q)) H locs ls hn hP hS hL))
theorem zz_alen (C : zC p s m args meth c cc nL own D dA) {a t0 : Nat} {x : vp_A} {cA : ClassId} {ty : FieldType} {v : Int32} (ht : (zTy dA)[t0]? = some (cA, ty)) (ha : w a = some (.inl (cA, x))) (hv : Int32.ofNat x.1 = v) (hd : decode cc pc = .ok (.arraylength, 1)) (k : zz p l e R s m args below meth c D A nL Q w n kc ks (pc + 1) lv (.int v :: st)) : zz p l e R s m args below meth c D A nL Q w n kc ks pc lv (.ref a :: st) := fun H locs ls hn hP hS hL => va_alen C.1 C.2.1 C.2.2.2.2.2.1.1 (hP.one ha) 0 t0 rfl ht hv hd (k H locs ls hn hP hS hL)
theorem zz_iast (C : zC p s m args meth c cc nL own D dA) {a N t0 : Nat} {f : Nat → Int32} {i x : Int32} {cA : ClassId} (ht : (zTy dA)[t0]? = some (cA, .int)) (ha : w a = some (.inl (cA, N, .inl f))) (hA : A a) (hi : vp_in i N) (hd : decode cc pc = .ok (.iastore, 1)) (k : zz p l e R s m args below meth c D A nL Q (va_up w a (some (.inl (cA, N, .inl (upd f i.toNatClampNeg x))))) n kc ks (pc + 1) lv st) : zz p l e R s m args below meth c D A nL Q w n kc ks pc lv (.int x :: .int i :: .ref a :: st) := by
  intro H locs ls hn hP hS hL
  have hK : va_K D classes (zTy dA) s := C.2.2.2.2.2.1.1
  refine W.iast C.1 C.2.1 (hP a _ ha) ((hK.2 t0 _ ht).1 N (fun j => .int (f j))) (fun q => by cases q) (by show ¬ (i < 0 ∨ (arrV _ _ _).slots.size ≤ _); rw [arrV_size]; exact hi) rfl rfl hd fun H1 e z oq => ?_
  refine k H1 _ ls (z.trans hn) (hP.up ?_ oq) (hS.put z oq hA) hL
  show H1[a]? = some (vp_cell _ _)
  rw [e]
  rw [vp_cell_i, vp_cell_i, arrV_store]
  congr 2
  funext q
  by_cases hq : q = i.toNatClampNeg
  · subst hq
    simp [updV, upd, vp_nar]
    try rfl
  · simp [updV, upd, hq]
theorem zz_zast (C : zC p s m args meth c cc nL own D dA) {a N t0 : Nat} {f : Nat → Int32} {i x : Int32} {cA : ClassId} (ht : (zTy dA)[t0]? = some (cA, .boolean)) (ha : w a = some (.inl (cA, N, .inl f))) (hA : A a) (hi : vp_in i N) (hd : decode cc pc = .ok (.bastore, 1)) (k : zz p l e R s m args below meth c D A nL Q (va_up w a (some (.inl (cA, N, .inl (upd f i.toNatClampNeg (vp_nar .boolean x)))))) n kc ks (pc + 1) lv st) : zz p l e R s m args below meth c D A nL Q w n kc ks pc lv (.int x :: .int i :: .ref a :: st) := by
  intro H locs ls hn hP hS hL
  have hK : va_K D classes (zTy dA) s := C.2.2.2.2.2.1.1
  refine W.zast C.1 C.2.1 (hP a _ ha) ((hK.2 t0 _ ht).1 N (fun j => .int (f j))) (fun q => by cases q) (by show ¬ (i < 0 ∨ (arrV _ _ _).slots.size ≤ _); rw [arrV_size]; exact hi) rfl rfl hd fun H1 e z oq => ?_
  refine k H1 _ ls (z.trans hn) (hP.up ?_ oq) (hS.put z oq hA) hL
  show H1[a]? = some (vp_cell _ _)
  rw [e]
  rw [vp_cell_i, vp_cell_i, arrV_store]
  congr 2
  funext q
  by_cases hq : q = i.toNatClampNeg
  · subst hq
    simp [updV, upd, vp_nar]
    try rfl
  · simp [updV, upd, hq]
theorem zz_aast (C : zC p s m args meth c cc nL own D dA) {a N t0 v ci : Nat} {f : Nat → Option Nat} {i : Int32} {cA : ClassId} {r : vw_C} {vs : List Value} (ht : (zTy dA)[t0]? = some (cA, .object r.1)) (ha : w a = some (.inl (cA, N, .inr (.inr (.inr (.inr f)))))) (hc : classes[ci]? = some r) (hv : w v = some (.inr (ci, vs))) (hA : A a) (hi : vp_in i N) (hd : decode cc pc = .ok (.aastore, 1)) (k : zz p l e R s m args below meth c D A nL Q (va_up w a (some (.inl (cA, N, .inr (.inr (.inr (.inr (va_up f i.toNatClampNeg (some v))))))))) n kc ks (pc + 1) lv st) : zz p l e R s m args below meth c D A nL Q w n kc ks pc lv (.ref v :: .int i :: .ref a :: st) := by
  intro H locs ls hn hP hS hL
  have hK : va_K D classes (zTy dA) s := C.2.2.2.2.2.1.1
  have hlt : i.toNatClampNeg < N := Nat.not_le.mp fun q => hi (Or.inr q)
  have h0 : ¬ i < 0 := fun q => hi (Or.inl q)
  obtain ⟨r', hr', cellV, g1, g2, g3, -⟩ := hP v _ hv
  have hcls := (hK.1 ci r hc).2
  obtain ⟨kA, comp, k1, k2, k3, -⟩ := (hK.2 t0 _ ht).2
  have hcomp : comp = D.1 ci := Option.some.inj (k3.symm.trans hcls.1)
  subst hcomp
  obtain ⟨kC, hkC, -⟩ := hcls.2
  refine W.aast C.1 C.2.1 (hP a _ ha) (fun q h => by cases h) (fun h => by cases h) k1 k2 rfl hkC ⟨h0, by show _ < (arrV _ _ _).slots.size; rw [arrV_size]; exact hlt⟩ g1 (fun q h => by rw [g3] at h; cases h) (by rw [g2]; exact hkC) (by rw [g2]; exact va_assign hcls) rfl rfl hd fun H1 e z oq => ?_
  refine k H1 _ ls (z.trans hn) (hP.up ?_ oq) (hS.put z oq hA) hL
  show H1[a]? = some (vp_cell _ _)
  rw [e]
  rw [vp_cell_q, vp_cell_q, arrV_store]
  congr 2
  funext q
  by_cases hq : q = i.toNatClampNeg
  · subst hq
    simp [updV, va_up, va_rf]
  · simp [updV, va_up, hq]
theorem zz_new (C : zC p s m args meth c cc nL own D dA) {Cn : String} {T : u_T} {N ci index : Nat} {fs : List Value} (hc : classes[ci]? = some (Cn, T, N)) (hin : ∀ w ∈ u_ws Cn T N, w ∈ zT) (ty0 : Nat → FieldType) (hty : ∀ k, k < N → parseFieldDescriptor (T k).2.2.1 = some (ty0 k)) (hcl : Cond.classLink own index Cn ∈ zT ∧ Cond.instantiable Cn N ∈ zT ∧ Cond.initialized Cn ∈ zT) (hfs : ∀ j, j < N → defaultValue (ty0 j) = vp_V fs j) (hA : ∀ q, s.heap.size ≤ q → A q) (hcells : kc + 1 ≤ R.cells) (hslots : ks + N ≤ R.slots) (hd : decode cc pc = .ok (.new index, 3)) (k : zz p l e R s m args below meth c D A nL Q (va_up w n (some (.inr (ci, fs)))) (n + 1) (kc + 1) (ks + N) (pc + 3) lv (.ref n :: st)) : zz p l e R s m args below meth c D A nL Q w n kc ks pc lv st := by
  intro H locs ls hn hP hS hL
  have hK : va_K D classes (zTy dA) s := C.2.2.2.2.2.1.1
  have hts := C.2.2.2.2.1
  have hKn := hK.1 ci _ hc
  refine W.newcK C.1 C.2.1 C.2.2.2.1 (hts _ hcl.1) (hts _ hcl.2.1) (hts _ hcl.2.2) rfl hd hcells hslots hKn.2.1 hn fun H1 kC hkC e1 z1 o1 => ?_
  exact k H1 locs ls z1 (hP.push hn ⟨_, hc, (u_born ty0 hts hin hKn hkC e1 hty).to hfs⟩ o1) ⟨Nat.le_trans hS.1 (by omega), fun x h1 h2 => (o1 x (by have := hS.1; omega)).trans (hS.2.1 x h1 h2), hS.2.2⟩ hL
theorem zz_newa (C : zC p s m args meth c cc nL own D dA) {atype : ArrayType} {ty : FieldType} {i : Int32} {N t0 : Nat} {cA : ClassId} {a0 : vp_A} (hty : newarray.typeOf atype = ty) (ht : (zTy dA)[t0]? = some (cA, ty)) (har : Cond.arrayClass ty ∈ zT) (hprim : ∀ U cA, va_RA U cA ty = (U.vm.findClass ("[" ++ ty.toString) = some cA)) (ha : ∀ cA : ClassId, vp_cell cA a0 = arrV cA N (fun _ => defaultValue ty)) (hi : ¬ i < 0) (hN : i.toNatClampNeg = N) (hb : N * componentBytes ty ≤ 536870912) (hcells : kc + 1 ≤ R.cells) (hslots : ks + N ≤ R.slots) (hd : decode cc pc = .ok (.newarray atype, 2)) (k : zz p l e R s m args below meth c D A nL Q (va_up w n (some (.inl (cA, a0)))) (n + 1) (kc + 1) (ks + N) (pc + 2) lv (.ref n :: st)) : zz p l e R s m args below meth c D A nL Q w n kc ks pc lv (.int i :: st) := by
  intro H locs ls hn hP hS hL
  have hK : va_K D classes (zTy dA) s := C.2.2.2.2.2.1.1
  subst hty
  refine va_newaK C.1 C.2.1 (C.2.2.2.2.1 _ har) rfl hd rfl hi hN hb hcells hslots hn fun H1 cB e1 z1 o1 hAr hNm => ?_
  have hcA := (hK.2 t0 _ ht).2
  rw [hprim] at hcA
  have hcc : cB = cA := Option.some.inj (hNm.symm.trans hcA)
  subst hcc
  exact k H1 locs ls z1 (hP.push hn (by show H1[n]? = some (vp_cell _ _); rw [ha]; exact e1) o1) ⟨Nat.le_trans hS.1 (by omega), fun x h1 h2 => (o1 x (by have := hS.1; omega)).trans (hS.2.1 x h1 h2), hS.2.2⟩ hL
theorem zz_newq (C : zC p s m args meth c cc nL own D dA) {Cn : String} {index : Nat} {i : Int32} {N t0 : Nat} {cA : ClassId} (ht : (zTy dA)[t0]? = some (cA, .object Cn)) (hcl : Cond.classLink own index Cn ∈ zT) (hov : Cn ∈ zAO) (hi : ¬ i < 0) (hN : i.toNatClampNeg = N) (hb : N * 4 ≤ 536870912) (hcells : kc + 1 ≤ R.cells) (hslots : ks + N ≤ R.slots) (hd : decode cc pc = .ok (.anewarray index, 3)) (k : zz p l e R s m args below meth c D A nL Q (va_up w n (some (.inl (cA, N, .inr (.inr (.inr (.inr (fun _ => none)))))))) (n + 1) (kc + 1) (ks + N) (pc + 3) lv (.ref n :: st)) : zz p l e R s m args below meth c D A nL Q w n kc ks pc lv (.int i :: st) := by
  intro H locs ls hn hP hS hL
  have hK : va_K D classes (zTy dA) s := C.2.2.2.2.2.1.1
  subst hN
  refine W.anew C.1 C.2.1 C.2.2.2.1 (C.2.2.2.2.1 _ hcl) (va_AO.use (C.2.2.2.2.2.1.2.2 _ hov)) rfl hd rfl hi hb hcells hslots fun cB kA comp f1 f2 f3 f4 => ?_
  obtain ⟨kA', comp', k1, k2, k3, k4⟩ := (hK.2 t0 _ ht).2
  have hcc : cB = cA := Option.some.inj (f1.symm.trans k4)
  subst hcc
  generalize hH1 : H.push ({ cls := cB, slots := Array.replicate i.toNatClampNeg .null, vm := .none } : Cell) = H1
  have z1 : H1.size = n + 1 := by rw [← hH1, Array.size_push, hn]
  have e1 : H1[n]? = some (arrV cB i.toNatClampNeg (fun _ => .null)) := by rw [← hH1, ← hn, Array.getElem?_push_size, ← arrV_new]
  have o1 : ∀ q : Nat, q < n → H1[q]? = H[q]? := fun q hq => by rw [← hH1, Array.getElem?_push, if_neg (by omega)]
  rw [hn]
  exact k H1 locs ls z1 (hP.push hn (by show H1[n]? = some (vp_cell _ _); rw [vp_cell_q]; exact e1) o1) ⟨Nat.le_trans hS.1 (by omega), fun x h1 h2 => (o1 x (by have := hS.1; omega)).trans (hS.2.1 x h1 h2), hS.2.2⟩ hL
theorem zz_objInit (C : zC p s m args meth c cc nL own D dA) {idx a : Nat} (hl : Cond.methodLink own idx objectInit ∈ zT ∧ Cond.instanceMethod objectInit ∈ zT ∧ Cond.code objectInit ⟨#[0xb1]⟩ 1 none ∈ zT) (hd : decode cc pc = .ok (.invokespecial idx, 3)) (hf : 1 ≤ R.frames) (hlo : (st.map fun v => v.category).sum + 12 ≤ R.locals) (k : zz p l e R s m args below meth c D A nL Q w n kc ks (pc + 3) lv st) : zz p l e R s m args below meth c D A nL Q w n kc ks pc lv (.ref a :: st) := by
  intro H locs ls hn hP hS hL
  have hts := C.2.2.2.2.1
  refine W.objInit C.1 C.2.1 C.2.2.2.1 (hts _ hl.1) (hts _ hl.2.1) (hts _ hl.2.2) rfl (by rw [C.2.2.1]; exact hL.size) rfl hd hf (by simpa [JFrame.monitorRoom] using hlo) ?_
  exact W.eq (g2 := F0 m (pc + 3) ls st) rfl (k H locs ls hn hP hS hL)
theorem zz_mmax (C : zC p s m args meth c cc nL own D dA) {idx : Nat} {x y : Int32} (hl : Cond.methodLink own idx Lib.Math.max.name ∈ zT ∧ Cond.static Lib.Math.max.name ∈ zT ∧ Cond.initialized "java/lang/Math" ∈ zT) (hcode : Cond.code Lib.Math.max.name Lib.Math.max.code 2 (some .int) ∈ zT) (hf : 1 ≤ R.frames) (hlo : (st.map fun v => v.category).sum + 13 ≤ R.locals) (hc : kc ≤ R.cells) (hs : ks ≤ R.slots) (hd : decode cc pc = .ok (.invokestatic idx, 3)) (k : zz p l e R s m args below meth c D A nL Q w n kc ks (pc + 3) lv (.int (if x < y then y else x) :: st)) : zz p l e R s m args below meth c D A nL Q w n kc ks pc lv (.int y :: .int x :: st) := fun H locs ls hn hP hS hL => va_mmax C.1 C.2.1 (C.2.2.1.trans hL.size.symm) C.2.2.2.1 (C.2.2.2.2.1 _ hl.1) (C.2.2.2.2.1 _ hl.2.1) (C.2.2.2.2.1 _ hl.2.2) (C.2.2.2.2.1 _ hcode) hf hlo hc hs hd (k H locs ls hn hP hS hL)
theorem zz_mmin (C : zC p s m args meth c cc nL own D dA) {idx : Nat} {x y : Int32} (hl : Cond.methodLink own idx Lib.Math.min.name ∈ zT ∧ Cond.static Lib.Math.min.name ∈ zT ∧ Cond.initialized "java/lang/Math" ∈ zT) (hcode : Cond.code Lib.Math.min.name Lib.Math.min.code 2 (some .int) ∈ zT) (hf : 1 ≤ R.frames) (hlo : (st.map fun v => v.category).sum + 13 ≤ R.locals) (hc : kc ≤ R.cells) (hs : ks ≤ R.slots) (hd : decode cc pc = .ok (.invokestatic idx, 3)) (k : zz p l e R s m args below meth c D A nL Q w n kc ks (pc + 3) lv (.int (if y < x then y else x) :: st)) : zz p l e R s m args below meth c D A nL Q w n kc ks pc lv (.int y :: .int x :: st) := fun H locs ls hn hP hS hL => va_mmin C.1 C.2.1 (C.2.2.1.trans hL.size.symm) C.2.2.2.1 (C.2.2.2.2.1 _ hl.1) (C.2.2.2.2.1 _ hl.2.1) (C.2.2.2.2.1 _ hl.2.2) (C.2.2.2.2.1 _ hcode) hf hlo hc hs hd (k H locs ls hn hP hS hL)
theorem zz_iret (C : zC p s m args meth c cc nL own D dA) {ty : FieldType} {x y : Int32} {w' : zW} {n' mc ms : Nat} (hr : meth.sig.returnType = some ty) (hna : narrow ty (.int x) = .int x) (hd : decode cc pc = .ok (.ireturn, 1)) (h1 : kc ≤ mc) (h2 : ks ≤ ms) (hn' : n = n') (hx : x = y) (hw : ∀ (q : Nat) (e : va_E), w' q = some e → w q = some e) : zz p l e R s m args below meth c D A nL (MQ below (zQ D A (some (.int y)) w' n') args s mc ms A) w n kc ks pc lv [.int x] := by
  intro H locs ls hn hP hS hL
  subst hx
  refine W.widen h1 h2 ?_
  exact W.zret C.1 C.2.1 hr hna (fun t ht hW => ⟨rfl, by rw [ht]; exact fun q e hq => hP q e (hw q e hq), by rw [ht, hn, hn'], hS.F ht⟩) hS.2.2 hd C.2.2.2.2.2.2
theorem zz_vret (C : zC p s m args meth c cc nL own D dA) {w' : zW} {n' mc ms : Nat} (hr : meth.sig.returnType = none) (hd : decode cc pc = .ok (.return_, 1)) (h1 : kc ≤ mc) (h2 : ks ≤ ms) (hn' : n = n') (hw : ∀ (q : Nat) (e : va_E), w' q = some e → w q = some e) : zz p l e R s m args below meth c D A nL (MQ below (zQ D A none w' n') args s mc ms A) w n kc ks pc lv [] := by
  intro H locs ls hn hP hS hL
  refine W.widen h1 h2 ?_
  exact W.vret C.1 C.2.1 hr (fun t ht hW => ⟨rfl, by rw [ht]; exact fun q e hq => hP q e (hw q e hq), by rw [ht, hn, hn'], hS.F ht⟩) hS.2.2 hd C.2.2.2.2.2.2
theorem zM_of {y : MethodName} {bytes : ByteArray} {maxL : Nat} {ret : Option FieldType} {rm : Room} {av : List Value} {w' : zW} {r : Option Value} {n' mc ms : Nat} (hy : plainName y.cls = true) (hlen : Nat.ble (lg_sl av).length maxL = true) {lv0 : zL} (hlv : lv_args 0 av = lv0) (hcat : (lv0.all fun q => q.2.category == 1) = true)
    (body : ∀ (p : Program) (e : Env) (s : State) (m : MethodId) (below : List Frame) (meth : Method) (c : Code), zC p s m av.toArray meth c bytes maxL y.cls D dA → meth.sig.returnType = ret → meth.name = y.name → s.heap.size = n →
      zz p l e rm s m av.toArray below meth c D A maxL (MQ below (zQ D A r w' n') av.toArray s mc ms A) w n 0 0 0 lv0 []) : zM l y bytes maxL ret rm D dA A av w n r w' n' mc ms := by
  refine Met.ofW (cc := bytes) (maxL := maxL) (ret := ret) hy rfl ?_
  intro p e s m args below meth c s₁ B hml hv
  obtain ⟨rfl, hsz, hP, hK⟩ := hv
  have hts := atoms_spec (ws := .code y bytes maxL ret :: zT) B.pre
  have hown : s.vm.findClass y.cls = some m.cls := findClass_of_methodNamed B.named
  have hl := lv_entry av (n := maxL) (Nat.le_of_ble_eq_true hlen)
  have hcat2 : ∀ q ∈ lv0, q.2.category = 1 := fun q hq => by simpa using List.all_eq_true.mp hcat q hq
  rw [lg_entry_eq]
  refine body p e s m below meth c ⟨B.exec, B.bytes, hml, hown, fun w hw => hts w (List.mem_cons_of_mem _ hw), hK, B.notSynchronized⟩ B.returns (name_of_methodNamed B.named B.method).1 hsz s.heap [] _ hsz hP va_S.rf ?_
  rw [hlv] at hl
  exact ⟨lv0, hl, fun i v hv => ⟨z_lookup_mem lv0 i v hv, hcat2 _ (z_lookup_mem lv0 i v hv)⟩⟩
theorem zz_go {H : Heap} {locs : List Loc} {ls : Array Slot} {A1 : Nat → Prop} {r : Option Value} {w1 w2 : zW} {n1 mc ms : Nat} {a : Array Value} {st0 rest : List Value} (hn : H.size = n) (hP : zP D w H) (hS : va_S A s.heap H locs) (hL : zH ls nL lv) (hr : va_Run p l e R s m args below meth c H locs kc ks mc ms (F0 m pc ls st0) rest (zQ D A1 r w1 n1 a) A1) (hA : ∀ q, A1 q → A q) (hw : ∀ (q : Nat) (e : va_E), w2 q = some e → w1 q = some e ∨ (w q = some e ∧ ¬ A1 q))
    (k : zz p l e R s m args below meth c D A nL Q w2 n1 (kc + mc) (ks + ms) (pc + 3) lv (r.toList ++ rest)) : W p l e R s m args below meth c H locs kc ks Q (F0 m pc ls st0) := by
  intro T hT X
  obtain ⟨v, st₀, t, T', L, h0, X', hL', e1, e2, ⟨hv, hp, hz0, hz, hk⟩, go⟩ := hr T hT X
  cases hv
  rw [h0] at hz hk
  have hP2 : zP D w2 T'.heap := by
    intro q e hq
    rcases hw q e hq with h | ⟨h, h'⟩
    · rw [e1]; exact hp q e h
    · have hl : q < H.size := (hP q e h).lt
      exact (hP q e h).kept (by rw [e1]; exact hk q hl h')
  obtain ⟨t2, a1, b1⟩ := k T'.heap (locs ++ L) ls (by rw [e1]; exact hz0) hP2
    ⟨Nat.le_trans hS.1 (by rw [e1]; exact hz), fun q h1 h2 => by rw [e1, hk q (Nat.lt_of_lt_of_le h1 hS.1) (fun z => h2 (hA q z))]; exact hS.2.1 q h1 h2, fun q hq => by
      rcases List.mem_append.mp hq with h | h
      · exact hS.2.2 q h
      · exact hA _ (hL' q h)⟩ hL T' rfl X'
  exact ⟨t2, go t2 a1, b1⟩
theorem zz_callVi (C : zC p s m args meth c cc nL own D dA) {y : MethodName} {bytes : ByteArray} {maxL : Nat} {ret : Option FieldType} {rm : Room} {A1 : Nat → Prop} {As rest st0 : List Value} {b : Nat} {x : Int32} {wc w1 w2 : zW} {n1 mc ms idx na : Nat} {host : String} {ci : Nat} {fs : List Value} {T : u_T} {N : Nat} (hrc : w b = some (.inr (ci, fs))) (hcl : classes[ci]? = some (y.cls, T, N)) (site : zSiteV own idx y na) (hM : zM l y bytes maxL ret rm D dA A1 (.ref b :: As) wc n (some (.int x)) w1 n1 mc ms) (hst : st0 = As.reverse ++ .ref b :: rest) (hna : As.length = na) (hd : decode cc pc = .ok (.invokevirtual idx, 3)) (hcode : Cond.code y bytes maxL ret ∈ zT) (hwc : ∀ (q : Nat) (e : va_E), wc q = some e → w q = some e) (hA : ∀ q, A1 q → A q) (hw : ∀ (q : Nat) (e : va_E), w2 q = some e → w1 q = some e ∨ (w q = some e ∧ ¬ A1 q)) (hrm : rm.cells = mc ∧ rm.slots = ms) (hR : rm.frames + 1 ≤ R.frames ∧ 8 + (maxL + 11) + rm.locals ≤ R.locals) (hf : kc + mc ≤ R.cells ∧ ks + ms ≤ R.slots) (hcat : (rest.map fun v => v.category).sum ≤ 8)
    (k : zz p l e R s m args below meth c D A nL Q w2 n1 (kc + mc) (ks + ms) (pc + 3) lv (.int x :: rest)) : zz p l e R s m args below meth c D A nL Q w n kc ks pc lv st0 := by
  intro H locs ls hn hP hS hL
  subst hst
  have hts := C.2.2.2.2.1
  have hG : GoodIn zT (Cond.code y bytes maxL ret :: zT) := fun w hw => by
    rcases List.mem_cons.mp hw with h | h
    · rw [h]; exact ⟨hcode, zT_good _ hcode⟩
    · exact ⟨h, zT_good _ h⟩
  refine zz_go hn hP hS hL (va_runV (C := y.cls) (As := As) (rest := rest) ⟨C.1, C.2.1, C.2.2.1, C.2.2.2.1, hts⟩ hM ⟨callB_of na hts hG rfl hrm.1 hrm.2 (hts _ site.2.1) (hts _ site.1.1) ⟨site.2.2.1, site.2.2.2.1, site.2.2.2.2⟩ hR, hts _ site.1.2.1, hts _ site.1.2.2⟩ ⟨fun a U g mk q => by obtain ⟨q0, q1, q2, q3⟩ := q; exact ⟨q0, q1, q2, q3.call⟩, (va_recv C.2.2.2.2.2.1.1 (hP.one hrc) hcl (q0 := 0) rfl), fun U hU hW => ⟨rfl, by rw [hU]; exact hn, by rw [hU]; exact fun q e hq => hP q e (hwc q e hq), C.2.2.2.2.2.1.warm hW⟩⟩ rfl hna hL.size rfl (lv_room hcat) hd hf) hA hw k
theorem zz_callVv (C : zC p s m args meth c cc nL own D dA) {y : MethodName} {bytes : ByteArray} {maxL : Nat} {ret : Option FieldType} {rm : Room} {A1 : Nat → Prop} {As rest st0 : List Value} {b : Nat} {x : Int32} {wc w1 w2 : zW} {n1 mc ms idx na : Nat} {host : String} {ci : Nat} {fs : List Value} {T : u_T} {N : Nat} (hrc : w b = some (.inr (ci, fs))) (hcl : classes[ci]? = some (y.cls, T, N)) (site : zSiteV own idx y na) (hM : zM l y bytes maxL ret rm D dA A1 (.ref b :: As) wc n none w1 n1 mc ms) (hst : st0 = As.reverse ++ .ref b :: rest) (hna : As.length = na) (hd : decode cc pc = .ok (.invokevirtual idx, 3)) (hcode : Cond.code y bytes maxL ret ∈ zT) (hwc : ∀ (q : Nat) (e : va_E), wc q = some e → w q = some e) (hA : ∀ q, A1 q → A q) (hw : ∀ (q : Nat) (e : va_E), w2 q = some e → w1 q = some e ∨ (w q = some e ∧ ¬ A1 q)) (hrm : rm.cells = mc ∧ rm.slots = ms) (hR : rm.frames + 1 ≤ R.frames ∧ 8 + (maxL + 11) + rm.locals ≤ R.locals) (hf : kc + mc ≤ R.cells ∧ ks + ms ≤ R.slots) (hcat : (rest.map fun v => v.category).sum ≤ 8)
    (k : zz p l e R s m args below meth c D A nL Q w2 n1 (kc + mc) (ks + ms) (pc + 3) lv rest) : zz p l e R s m args below meth c D A nL Q w n kc ks pc lv st0 := by
  intro H locs ls hn hP hS hL
  subst hst
  have hts := C.2.2.2.2.1
  have hG : GoodIn zT (Cond.code y bytes maxL ret :: zT) := fun w hw => by
    rcases List.mem_cons.mp hw with h | h
    · rw [h]; exact ⟨hcode, zT_good _ hcode⟩
    · exact ⟨h, zT_good _ h⟩
  refine zz_go hn hP hS hL (va_runV (C := y.cls) (As := As) (rest := rest) ⟨C.1, C.2.1, C.2.2.1, C.2.2.2.1, hts⟩ hM ⟨callB_of na hts hG rfl hrm.1 hrm.2 (hts _ site.2.1) (hts _ site.1.1) ⟨site.2.2.1, site.2.2.2.1, site.2.2.2.2⟩ hR, hts _ site.1.2.1, hts _ site.1.2.2⟩ ⟨fun a U g mk q => by obtain ⟨q0, q1, q2, q3⟩ := q; exact ⟨q0, q1, q2, q3.call⟩, (va_recv C.2.2.2.2.2.1.1 (hP.one hrc) hcl (q0 := 0) rfl), fun U hU hW => ⟨rfl, by rw [hU]; exact hn, by rw [hU]; exact fun q e hq => hP q e (hwc q e hq), C.2.2.2.2.2.1.warm hW⟩⟩ rfl hna hL.size rfl (lv_room hcat) hd hf) hA hw k
theorem zz_callVNi (C : zC p s m args meth c cc nL own D dA) {y : MethodName} {bytes : ByteArray} {maxL : Nat} {ret : Option FieldType} {rm : Room} {A1 : Nat → Prop} {As rest st0 : List Value} {b : Nat} {x : Int32} {wc w1 w2 : zW} {n1 mc ms idx na : Nat} {host : String} {ci : Nat} {fs : List Value} {T : u_T} {N : Nat} (hrc : w b = some (.inr (ci, fs))) (hcl : classes[ci]? = some (y.cls, T, N)) (site : zSiteVN own idx y host na) (hM : zM l y bytes maxL ret rm D dA A1 (.ref b :: As) wc n (some (.int x)) w1 n1 mc ms) (hst : st0 = As.reverse ++ .ref b :: rest) (hna : As.length = na) (hd : decode cc pc = .ok (.invokevirtual idx, 3)) (hcode : Cond.code y bytes maxL ret ∈ zT) (hwc : ∀ (q : Nat) (e : va_E), wc q = some e → w q = some e) (hA : ∀ q, A1 q → A q) (hw : ∀ (q : Nat) (e : va_E), w2 q = some e → w1 q = some e ∨ (w q = some e ∧ ¬ A1 q)) (hrm : rm.cells = mc ∧ rm.slots = ms) (hR : rm.frames + 1 ≤ R.frames ∧ 8 + (maxL + 11) + rm.locals ≤ R.locals) (hf : kc + mc ≤ R.cells ∧ ks + ms ≤ R.slots) (hcat : (rest.map fun v => v.category).sum ≤ 8)
    (k : zz p l e R s m args below meth c D A nL Q w2 n1 (kc + mc) (ks + ms) (pc + 3) lv (.int x :: rest)) : zz p l e R s m args below meth c D A nL Q w n kc ks pc lv st0 := by
  intro H locs ls hn hP hS hL
  subst hst
  have hts := C.2.2.2.2.1
  have hG : GoodIn zT (Cond.code y bytes maxL ret :: zT) := fun w hw => by
    rcases List.mem_cons.mp hw with h | h
    · rw [h]; exact ⟨hcode, zT_good _ hcode⟩
    · exact ⟨h, zT_good _ h⟩
  refine zz_go hn hP hS hL (va_runVN (C := y.cls) (host := host) (As := As) (rest := rest) ⟨C.1, C.2.1, C.2.2.1, C.2.2.2.1, hts⟩ hM ⟨va_cnB na hts hG rfl hrm.1 hrm.2 (C.2.2.2.2.2.1.2.1 _ site.1.1) (hts _ site.2.1) ⟨site.2.2.1, site.2.2.2.1, site.2.2.2.2⟩ hR, hts _ site.1.2.1, hts _ site.1.2.2⟩ ⟨fun a U g mk q => by obtain ⟨q0, q1, q2, q3⟩ := q; exact ⟨q0, q1, q2, q3.call⟩, (va_recv C.2.2.2.2.2.1.1 (hP.one hrc) hcl (q0 := 0) rfl), fun U hU hW => ⟨rfl, by rw [hU]; exact hn, by rw [hU]; exact fun q e hq => hP q e (hwc q e hq), C.2.2.2.2.2.1.warm hW⟩⟩ rfl hna hL.size rfl (lv_room hcat) hd hf) hA hw k
theorem zz_callVNv (C : zC p s m args meth c cc nL own D dA) {y : MethodName} {bytes : ByteArray} {maxL : Nat} {ret : Option FieldType} {rm : Room} {A1 : Nat → Prop} {As rest st0 : List Value} {b : Nat} {x : Int32} {wc w1 w2 : zW} {n1 mc ms idx na : Nat} {host : String} {ci : Nat} {fs : List Value} {T : u_T} {N : Nat} (hrc : w b = some (.inr (ci, fs))) (hcl : classes[ci]? = some (y.cls, T, N)) (site : zSiteVN own idx y host na) (hM : zM l y bytes maxL ret rm D dA A1 (.ref b :: As) wc n none w1 n1 mc ms) (hst : st0 = As.reverse ++ .ref b :: rest) (hna : As.length = na) (hd : decode cc pc = .ok (.invokevirtual idx, 3)) (hcode : Cond.code y bytes maxL ret ∈ zT) (hwc : ∀ (q : Nat) (e : va_E), wc q = some e → w q = some e) (hA : ∀ q, A1 q → A q) (hw : ∀ (q : Nat) (e : va_E), w2 q = some e → w1 q = some e ∨ (w q = some e ∧ ¬ A1 q)) (hrm : rm.cells = mc ∧ rm.slots = ms) (hR : rm.frames + 1 ≤ R.frames ∧ 8 + (maxL + 11) + rm.locals ≤ R.locals) (hf : kc + mc ≤ R.cells ∧ ks + ms ≤ R.slots) (hcat : (rest.map fun v => v.category).sum ≤ 8)
    (k : zz p l e R s m args below meth c D A nL Q w2 n1 (kc + mc) (ks + ms) (pc + 3) lv rest) : zz p l e R s m args below meth c D A nL Q w n kc ks pc lv st0 := by
  intro H locs ls hn hP hS hL
  subst hst
  have hts := C.2.2.2.2.1
  have hG : GoodIn zT (Cond.code y bytes maxL ret :: zT) := fun w hw => by
    rcases List.mem_cons.mp hw with h | h
    · rw [h]; exact ⟨hcode, zT_good _ hcode⟩
    · exact ⟨h, zT_good _ h⟩
  refine zz_go hn hP hS hL (va_runVN (C := y.cls) (host := host) (As := As) (rest := rest) ⟨C.1, C.2.1, C.2.2.1, C.2.2.2.1, hts⟩ hM ⟨va_cnB na hts hG rfl hrm.1 hrm.2 (C.2.2.2.2.2.1.2.1 _ site.1.1) (hts _ site.2.1) ⟨site.2.2.1, site.2.2.2.1, site.2.2.2.2⟩ hR, hts _ site.1.2.1, hts _ site.1.2.2⟩ ⟨fun a U g mk q => by obtain ⟨q0, q1, q2, q3⟩ := q; exact ⟨q0, q1, q2, q3.call⟩, (va_recv C.2.2.2.2.2.1.1 (hP.one hrc) hcl (q0 := 0) rfl), fun U hU hW => ⟨rfl, by rw [hU]; exact hn, by rw [hU]; exact fun q e hq => hP q e (hwc q e hq), C.2.2.2.2.2.1.warm hW⟩⟩ rfl hna hL.size rfl (lv_room hcat) hd hf) hA hw k
theorem zz_callSi (C : zC p s m args meth c cc nL own D dA) {y : MethodName} {bytes : ByteArray} {maxL : Nat} {ret : Option FieldType} {rm : Room} {A1 : Nat → Prop} {As rest st0 : List Value} {b : Nat} {x : Int32} {wc w1 w2 : zW} {n1 mc ms idx na : Nat} {host : String} (site : zSiteS own idx y na) (hM : zM l y bytes maxL ret rm D dA A1 As wc n (some (.int x)) w1 n1 mc ms) (hst : st0 = As.reverse ++ rest) (hna : As.length = na) (hd : decode cc pc = .ok (.invokestatic idx, 3)) (hcode : Cond.code y bytes maxL ret ∈ zT) (hwc : ∀ (q : Nat) (e : va_E), wc q = some e → w q = some e) (hA : ∀ q, A1 q → A q) (hw : ∀ (q : Nat) (e : va_E), w2 q = some e → w1 q = some e ∨ (w q = some e ∧ ¬ A1 q)) (hrm : rm.cells = mc ∧ rm.slots = ms) (hR : rm.frames + 1 ≤ R.frames ∧ 8 + (maxL + 11) + rm.locals ≤ R.locals) (hf : kc + mc ≤ R.cells ∧ ks + ms ≤ R.slots) (hcat : (rest.map fun v => v.category).sum ≤ 8)
    (k : zz p l e R s m args below meth c D A nL Q w2 n1 (kc + mc) (ks + ms) (pc + 3) lv (.int x :: rest)) : zz p l e R s m args below meth c D A nL Q w n kc ks pc lv st0 := by
  intro H locs ls hn hP hS hL
  subst hst
  have hts := C.2.2.2.2.1
  have hG : GoodIn zT (Cond.code y bytes maxL ret :: zT) := fun w hw => by
    rcases List.mem_cons.mp hw with h | h
    · rw [h]; exact ⟨hcode, zT_good _ hcode⟩
    · exact ⟨h, zT_good _ h⟩
  refine zz_go hn hP hS hL (va_runS (As := As) (rest := rest) ⟨C.1, C.2.1, C.2.2.1, C.2.2.2.1, hts⟩ hM ⟨callB_of na hts hG rfl hrm.1 hrm.2 (hts _ site.2.1) (hts _ site.1.1) ⟨site.2.2.1, site.2.2.2.1, site.2.2.2.2⟩ hR, hts _ site.1.2⟩ ⟨fun a U g mk q => by obtain ⟨q0, q1, q2, q3⟩ := q; exact ⟨q0, q1, q2, q3.call⟩, fun U hU hW => ⟨rfl, by rw [hU]; exact hn, by rw [hU]; exact fun q e hq => hP q e (hwc q e hq), C.2.2.2.2.2.1.warm hW⟩⟩ rfl hna hL.size rfl (lv_room hcat) hd hf) hA hw k
theorem zz_callSv (C : zC p s m args meth c cc nL own D dA) {y : MethodName} {bytes : ByteArray} {maxL : Nat} {ret : Option FieldType} {rm : Room} {A1 : Nat → Prop} {As rest st0 : List Value} {b : Nat} {x : Int32} {wc w1 w2 : zW} {n1 mc ms idx na : Nat} {host : String} (site : zSiteS own idx y na) (hM : zM l y bytes maxL ret rm D dA A1 As wc n none w1 n1 mc ms) (hst : st0 = As.reverse ++ rest) (hna : As.length = na) (hd : decode cc pc = .ok (.invokestatic idx, 3)) (hcode : Cond.code y bytes maxL ret ∈ zT) (hwc : ∀ (q : Nat) (e : va_E), wc q = some e → w q = some e) (hA : ∀ q, A1 q → A q) (hw : ∀ (q : Nat) (e : va_E), w2 q = some e → w1 q = some e ∨ (w q = some e ∧ ¬ A1 q)) (hrm : rm.cells = mc ∧ rm.slots = ms) (hR : rm.frames + 1 ≤ R.frames ∧ 8 + (maxL + 11) + rm.locals ≤ R.locals) (hf : kc + mc ≤ R.cells ∧ ks + ms ≤ R.slots) (hcat : (rest.map fun v => v.category).sum ≤ 8)
    (k : zz p l e R s m args below meth c D A nL Q w2 n1 (kc + mc) (ks + ms) (pc + 3) lv rest) : zz p l e R s m args below meth c D A nL Q w n kc ks pc lv st0 := by
  intro H locs ls hn hP hS hL
  subst hst
  have hts := C.2.2.2.2.1
  have hG : GoodIn zT (Cond.code y bytes maxL ret :: zT) := fun w hw => by
    rcases List.mem_cons.mp hw with h | h
    · rw [h]; exact ⟨hcode, zT_good _ hcode⟩
    · exact ⟨h, zT_good _ h⟩
  refine zz_go hn hP hS hL (va_runS (As := As) (rest := rest) ⟨C.1, C.2.1, C.2.2.1, C.2.2.2.1, hts⟩ hM ⟨callB_of na hts hG rfl hrm.1 hrm.2 (hts _ site.2.1) (hts _ site.1.1) ⟨site.2.2.1, site.2.2.2.1, site.2.2.2.2⟩ hR, hts _ site.1.2⟩ ⟨fun a U g mk q => by obtain ⟨q0, q1, q2, q3⟩ := q; exact ⟨q0, q1, q2, q3.call⟩, fun U hU hW => ⟨rfl, by rw [hU]; exact hn, by rw [hU]; exact fun q e hq => hP q e (hwc q e hq), C.2.2.2.2.2.1.warm hW⟩⟩ rfl hna hL.size rfl (lv_room hcat) hd hf) hA hw k
theorem zz_callIv (C : zC p s m args meth c cc nL own D dA) {y : MethodName} {bytes : ByteArray} {maxL : Nat} {ret : Option FieldType} {rm : Room} {A1 : Nat → Prop} {As rest st0 : List Value} {b : Nat} {x : Int32} {wc w1 w2 : zW} {n1 mc ms idx na : Nat} {host : String} (site : zSiteI own idx y na) (hM : zM l y bytes maxL none rm D dA A1 (.ref b :: As) wc n none w1 n1 mc ms) (hst : st0 = As.reverse ++ .ref b :: rest) (hna : As.length = na) (hd : decode cc pc = .ok (.invokespecial idx, 3)) (hcode : Cond.code y bytes maxL none ∈ zT) (hwc : ∀ (q : Nat) (e : va_E), wc q = some e → w q = some e) (hA : ∀ q, A1 q → A q) (hw : ∀ (q : Nat) (e : va_E), w2 q = some e → w1 q = some e ∨ (w q = some e ∧ ¬ A1 q)) (hrm : rm.cells = mc ∧ rm.slots = ms) (hR : rm.frames + 1 ≤ R.frames ∧ 8 + (maxL + 11) + rm.locals ≤ R.locals) (hf : kc + mc ≤ R.cells ∧ ks + ms ≤ R.slots) (hcat : (rest.map fun v => v.category).sum ≤ 8)
    (k : zz p l e R s m args below meth c D A nL Q w2 n1 (kc + mc) (ks + ms) (pc + 3) lv rest) : zz p l e R s m args below meth c D A nL Q w n kc ks pc lv st0 := by
  intro H locs ls hn hP hS hL
  subst hst
  have hts := C.2.2.2.2.1
  have hG : GoodIn zT (Cond.code y bytes maxL none :: zT) := fun w hw => by
    rcases List.mem_cons.mp hw with h | h
    · rw [h]; exact ⟨hcode, zT_good _ hcode⟩
    · exact ⟨h, zT_good _ h⟩
  refine zz_go hn hP hS hL (va_runI (b := b) (As := As) (rest := rest) ⟨C.1, C.2.1, C.2.2.1, C.2.2.2.1, hts⟩ hM ⟨callB_of na hts hG rfl hrm.1 hrm.2 (hts _ site.2.1) (hts _ site.1.1) ⟨site.2.2.1, site.2.2.2.1, site.2.2.2.2⟩ hR, site.1.2.2, hts _ site.1.2.1⟩ ⟨fun a U g mk q => by obtain ⟨q0, q1, q2, q3⟩ := q; exact ⟨q0, q1, q2, q3.call⟩, fun U hU hW => ⟨rfl, by rw [hU]; exact hn, by rw [hU]; exact fun q e hq => hP q e (hwc q e hq), C.2.2.2.2.2.1.warm hW⟩⟩ rfl hna hL.size rfl (lv_room hcat) hd hf) hA hw k
theorem zz_callINv (C : zC p s m args meth c cc nL own D dA) {y : MethodName} {bytes : ByteArray} {maxL : Nat} {ret : Option FieldType} {rm : Room} {A1 : Nat → Prop} {As rest st0 : List Value} {b : Nat} {x : Int32} {wc w1 w2 : zW} {n1 mc ms idx na : Nat} {host : String} (site : zSiteIN own idx y host na) (hM : zM l y bytes maxL none rm D dA A1 (.ref b :: As) wc n none w1 n1 mc ms) (hst : st0 = As.reverse ++ .ref b :: rest) (hna : As.length = na) (hd : decode cc pc = .ok (.invokespecial idx, 3)) (hcode : Cond.code y bytes maxL none ∈ zT) (hwc : ∀ (q : Nat) (e : va_E), wc q = some e → w q = some e) (hA : ∀ q, A1 q → A q) (hw : ∀ (q : Nat) (e : va_E), w2 q = some e → w1 q = some e ∨ (w q = some e ∧ ¬ A1 q)) (hrm : rm.cells = mc ∧ rm.slots = ms) (hR : rm.frames + 1 ≤ R.frames ∧ 8 + (maxL + 11) + rm.locals ≤ R.locals) (hf : kc + mc ≤ R.cells ∧ ks + ms ≤ R.slots) (hcat : (rest.map fun v => v.category).sum ≤ 8)
    (k : zz p l e R s m args below meth c D A nL Q w2 n1 (kc + mc) (ks + ms) (pc + 3) lv rest) : zz p l e R s m args below meth c D A nL Q w n kc ks pc lv st0 := by
  intro H locs ls hn hP hS hL
  subst hst
  have hts := C.2.2.2.2.1
  have hG : GoodIn zT (Cond.code y bytes maxL none :: zT) := fun w hw => by
    rcases List.mem_cons.mp hw with h | h
    · rw [h]; exact ⟨hcode, zT_good _ hcode⟩
    · exact ⟨h, zT_good _ h⟩
  refine zz_go hn hP hS hL (va_runIN (b := b) (host := host) (As := As) (rest := rest) ⟨C.1, C.2.1, C.2.2.1, C.2.2.2.1, hts⟩ hM ⟨va_cnB na hts hG rfl hrm.1 hrm.2 (C.2.2.2.2.2.1.2.1 _ site.1.1) (hts _ site.2.1) ⟨site.2.2.1, site.2.2.2.1, site.2.2.2.2⟩ hR, site.1.2.2, hts _ site.1.2.1⟩ ⟨fun a U g mk q => by obtain ⟨q0, q1, q2, q3⟩ := q; exact ⟨q0, q1, q2, q3.call⟩, fun U hU hW => ⟨rfl, by rw [hU]; exact hn, by rw [hU]; exact fun q e hq => hP q e (hwc q e hq), C.2.2.2.2.2.1.warm hW⟩⟩ rfl hna hL.size rfl (lv_room hcat) hd hf) hA hw k
end ZZ
