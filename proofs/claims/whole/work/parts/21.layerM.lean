section ML
variable {p : Program} {l : Launch} {e : Env} {R : Room} {s : State} {m : MethodId} {args : Array Value} {below : List Frame} {meth : Method} {c : Code} {cc : ByteArray} {nL : Nat} {own : String} {D : va_G} {dA : Nat → ClassId} {Q : State → Prop} {σ : zS} {lo n kc ks pc : Nat} {lv : zL} {st : List Value}
def ma0 (lo i : Nat) : Nat := lo + i
def ma1 (lo i : Nat) : Nat := lo + 1 + i
def ma2 (lo i : Nat) : Nat := lo + 2 + i
def ma3 (lo i : Nat) : Nat := lo + 3 + i
def ma4 (lo i : Nat) : Nat := lo + 4 + i
def ma5 (lo i : Nat) : Nat := lo + 5 + i
def ma6 (lo i : Nat) : Nat := lo + 6 + i
def ma7 (lo i : Nat) : Nat := lo + 7 + i
def ma8 (lo i : Nat) : Nat := lo + 8 + i
def ma9 (lo i : Nat) : Nat := lo + 9 + i
def ma10 (lo i : Nat) : Nat := lo + 10 + i
def ma11 (lo i : Nat) : Nat := lo + 11 + i
def ma12 (lo i : Nat) : Nat := lo + 12 + i
def ma13 (lo i : Nat) : Nat := lo + 13 + i
def ma14 (lo i : Nat) : Nat := lo + 14 + i
def ma15 (lo i : Nat) : Nat := lo + 15 + i
def mk (lo q : Nat) : Nat × Nat := if q < lo ∨ lo + 16 ≤ q then (99, 0) else (q - lo, 0)
def me (dA : Nat → ClassId) (lo : Nat) (σ : zS) (κ i : Nat) : Option va_E := match κ with
  | 0 => some (.inr (4, [.int (σ 0 i 0), .ref (ma1 lo 0), .ref (ma2 lo 0), .ref (ma3 lo 0), .ref (ma4 lo 0), .ref (ma5 lo 0), .ref (ma6 lo 0), .ref (ma7 lo 0), .ref (ma8 lo 0), .ref (ma9 lo 0), .ref (ma10 lo 0), .ref (ma11 lo 0), .ref (ma12 lo 0), .ref (ma13 lo 0), .ref (ma14 lo 0), .ref (ma15 lo 0)]))
  | 1 => some (.inl (dA 0, 10, .inl (fun j => σ 1 i j)))
  | 2 => some (.inl (dA 0, 10, .inl (fun j => σ 2 i j)))
  | 3 => some (.inl (dA 0, 10, .inl (fun j => σ 3 i j)))
  | 4 => some (.inl (dA 0, 10, .inl (fun j => σ 4 i j)))
  | 5 => some (.inl (dA 0, 40, .inl (fun j => σ 5 i j)))
  | 6 => some (.inl (dA 0, 40, .inl (fun j => σ 6 i j)))
  | 7 => some (.inl (dA 0, 160, .inl (fun j => σ 7 i j)))
  | 8 => some (.inl (dA 1, 40, .inl (fun j => σ 8 i j)))
  | 9 => some (.inl (dA 1, 4, .inl (fun j => σ 9 i j)))
  | 10 => some (.inl (dA 1, 4, .inl (fun j => σ 10 i j)))
  | 11 => some (.inl (dA 0, 4, .inl (fun j => σ 11 i j)))
  | 12 => some (.inl (dA 0, 48, .inl (fun j => σ 12 i j)))
  | 13 => some (.inl (dA 0, 48, .inl (fun j => σ 13 i j)))
  | 14 => some (.inl (dA 1, 48, .inl (fun j => σ 14 i j)))
  | 15 => some (.inl (dA 0, 4, .inl (fun j => σ 15 i j)))
  | _ => none
def mw (dA : Nat → ClassId) (lo : Nat) (σ : zS) : zW := fun q => me dA lo σ (mk lo q).1 (mk lo q).2
def mA (lo : Nat) : Nat → Prop := fun q => lo ≤ q ∧ q < lo + 16
theorem mk_0 {lo i : Nat} (h : i < 1) : mk lo (ma0 lo i) = (0, i) := by
  unfold mk ma0
  (repeat' split) <;> first | (exfalso; omega) | (refine Prod.ext ?_ ?_ <;> (show _ = _) <;> omega)
theorem mk_i0 {lo q i : Nat} (h : mk lo q = (0, i)) : q = ma0 lo i ∧ i < 1 := by
  unfold mk at h
  unfold ma0
  (repeat' split at h) <;> simp only [Prod.mk.injEq] at h <;> omega
theorem mw_0 {dA : Nat → ClassId} {lo i : Nat} {σ : zS} (h : i < 1) : mw dA lo σ (ma0 lo i) = some (.inr (4, [.int (σ 0 i 0), .ref (ma1 lo 0), .ref (ma2 lo 0), .ref (ma3 lo 0), .ref (ma4 lo 0), .ref (ma5 lo 0), .ref (ma6 lo 0), .ref (ma7 lo 0), .ref (ma8 lo 0), .ref (ma9 lo 0), .ref (ma10 lo 0), .ref (ma11 lo 0), .ref (ma12 lo 0), .ref (ma13 lo 0), .ref (ma14 lo 0), .ref (ma15 lo 0)])) := by
  unfold mw
  rw [mk_0 h]
  rfl
theorem mA_0 {lo i : Nat} (h : i < 1) : mA lo (ma0 lo i) := by
  unfold mA ma0
  omega
theorem mk_1 {lo i : Nat} (h : i < 1) : mk lo (ma1 lo i) = (1, i) := by
  unfold mk ma1
  (repeat' split) <;> first | (exfalso; omega) | (refine Prod.ext ?_ ?_ <;> (show _ = _) <;> omega)
theorem mk_i1 {lo q i : Nat} (h : mk lo q = (1, i)) : q = ma1 lo i ∧ i < 1 := by
  unfold mk at h
  unfold ma1
  (repeat' split at h) <;> simp only [Prod.mk.injEq] at h <;> omega
theorem mw_1 {dA : Nat → ClassId} {lo i : Nat} {σ : zS} (h : i < 1) : mw dA lo σ (ma1 lo i) = some (.inl (dA 0, 10, .inl (fun j => σ 1 i j))) := by
  unfold mw
  rw [mk_1 h]
  rfl
theorem mA_1 {lo i : Nat} (h : i < 1) : mA lo (ma1 lo i) := by
  unfold mA ma1
  omega
theorem mk_2 {lo i : Nat} (h : i < 1) : mk lo (ma2 lo i) = (2, i) := by
  unfold mk ma2
  (repeat' split) <;> first | (exfalso; omega) | (refine Prod.ext ?_ ?_ <;> (show _ = _) <;> omega)
theorem mk_i2 {lo q i : Nat} (h : mk lo q = (2, i)) : q = ma2 lo i ∧ i < 1 := by
  unfold mk at h
  unfold ma2
  (repeat' split at h) <;> simp only [Prod.mk.injEq] at h <;> omega
theorem mw_2 {dA : Nat → ClassId} {lo i : Nat} {σ : zS} (h : i < 1) : mw dA lo σ (ma2 lo i) = some (.inl (dA 0, 10, .inl (fun j => σ 2 i j))) := by
  unfold mw
  rw [mk_2 h]
  rfl
theorem mA_2 {lo i : Nat} (h : i < 1) : mA lo (ma2 lo i) := by
  unfold mA ma2
  omega
theorem mk_3 {lo i : Nat} (h : i < 1) : mk lo (ma3 lo i) = (3, i) := by
  unfold mk ma3
  (repeat' split) <;> first | (exfalso; omega) | (refine Prod.ext ?_ ?_ <;> (show _ = _) <;> omega)
theorem mk_i3 {lo q i : Nat} (h : mk lo q = (3, i)) : q = ma3 lo i ∧ i < 1 := by
  unfold mk at h
  unfold ma3
  (repeat' split at h) <;> simp only [Prod.mk.injEq] at h <;> omega
theorem mw_3 {dA : Nat → ClassId} {lo i : Nat} {σ : zS} (h : i < 1) : mw dA lo σ (ma3 lo i) = some (.inl (dA 0, 10, .inl (fun j => σ 3 i j))) := by
  unfold mw
  rw [mk_3 h]
  rfl
theorem mA_3 {lo i : Nat} (h : i < 1) : mA lo (ma3 lo i) := by
  unfold mA ma3
  omega
theorem mk_4 {lo i : Nat} (h : i < 1) : mk lo (ma4 lo i) = (4, i) := by
  unfold mk ma4
  (repeat' split) <;> first | (exfalso; omega) | (refine Prod.ext ?_ ?_ <;> (show _ = _) <;> omega)
theorem mk_i4 {lo q i : Nat} (h : mk lo q = (4, i)) : q = ma4 lo i ∧ i < 1 := by
  unfold mk at h
  unfold ma4
  (repeat' split at h) <;> simp only [Prod.mk.injEq] at h <;> omega
theorem mw_4 {dA : Nat → ClassId} {lo i : Nat} {σ : zS} (h : i < 1) : mw dA lo σ (ma4 lo i) = some (.inl (dA 0, 10, .inl (fun j => σ 4 i j))) := by
  unfold mw
  rw [mk_4 h]
  rfl
theorem mA_4 {lo i : Nat} (h : i < 1) : mA lo (ma4 lo i) := by
  unfold mA ma4
  omega
theorem mk_5 {lo i : Nat} (h : i < 1) : mk lo (ma5 lo i) = (5, i) := by
  unfold mk ma5
  (repeat' split) <;> first | (exfalso; omega) | (refine Prod.ext ?_ ?_ <;> (show _ = _) <;> omega)
theorem mk_i5 {lo q i : Nat} (h : mk lo q = (5, i)) : q = ma5 lo i ∧ i < 1 := by
  unfold mk at h
  unfold ma5
  (repeat' split at h) <;> simp only [Prod.mk.injEq] at h <;> omega
theorem mw_5 {dA : Nat → ClassId} {lo i : Nat} {σ : zS} (h : i < 1) : mw dA lo σ (ma5 lo i) = some (.inl (dA 0, 40, .inl (fun j => σ 5 i j))) := by
  unfold mw
  rw [mk_5 h]
  rfl
theorem mA_5 {lo i : Nat} (h : i < 1) : mA lo (ma5 lo i) := by
  unfold mA ma5
  omega
theorem mk_6 {lo i : Nat} (h : i < 1) : mk lo (ma6 lo i) = (6, i) := by
  unfold mk ma6
  (repeat' split) <;> first | (exfalso; omega) | (refine Prod.ext ?_ ?_ <;> (show _ = _) <;> omega)
theorem mk_i6 {lo q i : Nat} (h : mk lo q = (6, i)) : q = ma6 lo i ∧ i < 1 := by
  unfold mk at h
  unfold ma6
  (repeat' split at h) <;> simp only [Prod.mk.injEq] at h <;> omega
theorem mw_6 {dA : Nat → ClassId} {lo i : Nat} {σ : zS} (h : i < 1) : mw dA lo σ (ma6 lo i) = some (.inl (dA 0, 40, .inl (fun j => σ 6 i j))) := by
  unfold mw
  rw [mk_6 h]
  rfl
theorem mA_6 {lo i : Nat} (h : i < 1) : mA lo (ma6 lo i) := by
  unfold mA ma6
  omega
theorem mk_7 {lo i : Nat} (h : i < 1) : mk lo (ma7 lo i) = (7, i) := by
  unfold mk ma7
  (repeat' split) <;> first | (exfalso; omega) | (refine Prod.ext ?_ ?_ <;> (show _ = _) <;> omega)
theorem mk_i7 {lo q i : Nat} (h : mk lo q = (7, i)) : q = ma7 lo i ∧ i < 1 := by
  unfold mk at h
  unfold ma7
  (repeat' split at h) <;> simp only [Prod.mk.injEq] at h <;> omega
theorem mw_7 {dA : Nat → ClassId} {lo i : Nat} {σ : zS} (h : i < 1) : mw dA lo σ (ma7 lo i) = some (.inl (dA 0, 160, .inl (fun j => σ 7 i j))) := by
  unfold mw
  rw [mk_7 h]
  rfl
theorem mA_7 {lo i : Nat} (h : i < 1) : mA lo (ma7 lo i) := by
  unfold mA ma7
  omega
theorem mk_8 {lo i : Nat} (h : i < 1) : mk lo (ma8 lo i) = (8, i) := by
  unfold mk ma8
  (repeat' split) <;> first | (exfalso; omega) | (refine Prod.ext ?_ ?_ <;> (show _ = _) <;> omega)
theorem mk_i8 {lo q i : Nat} (h : mk lo q = (8, i)) : q = ma8 lo i ∧ i < 1 := by
  unfold mk at h
  unfold ma8
  (repeat' split at h) <;> simp only [Prod.mk.injEq] at h <;> omega
theorem mw_8 {dA : Nat → ClassId} {lo i : Nat} {σ : zS} (h : i < 1) : mw dA lo σ (ma8 lo i) = some (.inl (dA 1, 40, .inl (fun j => σ 8 i j))) := by
  unfold mw
  rw [mk_8 h]
  rfl
theorem mA_8 {lo i : Nat} (h : i < 1) : mA lo (ma8 lo i) := by
  unfold mA ma8
  omega
theorem mk_9 {lo i : Nat} (h : i < 1) : mk lo (ma9 lo i) = (9, i) := by
  unfold mk ma9
  (repeat' split) <;> first | (exfalso; omega) | (refine Prod.ext ?_ ?_ <;> (show _ = _) <;> omega)
theorem mk_i9 {lo q i : Nat} (h : mk lo q = (9, i)) : q = ma9 lo i ∧ i < 1 := by
  unfold mk at h
  unfold ma9
  (repeat' split at h) <;> simp only [Prod.mk.injEq] at h <;> omega
theorem mw_9 {dA : Nat → ClassId} {lo i : Nat} {σ : zS} (h : i < 1) : mw dA lo σ (ma9 lo i) = some (.inl (dA 1, 4, .inl (fun j => σ 9 i j))) := by
  unfold mw
  rw [mk_9 h]
  rfl
theorem mA_9 {lo i : Nat} (h : i < 1) : mA lo (ma9 lo i) := by
  unfold mA ma9
  omega
theorem mk_10 {lo i : Nat} (h : i < 1) : mk lo (ma10 lo i) = (10, i) := by
  unfold mk ma10
  (repeat' split) <;> first | (exfalso; omega) | (refine Prod.ext ?_ ?_ <;> (show _ = _) <;> omega)
theorem mk_i10 {lo q i : Nat} (h : mk lo q = (10, i)) : q = ma10 lo i ∧ i < 1 := by
  unfold mk at h
  unfold ma10
  (repeat' split at h) <;> simp only [Prod.mk.injEq] at h <;> omega
theorem mw_10 {dA : Nat → ClassId} {lo i : Nat} {σ : zS} (h : i < 1) : mw dA lo σ (ma10 lo i) = some (.inl (dA 1, 4, .inl (fun j => σ 10 i j))) := by
  unfold mw
  rw [mk_10 h]
  rfl
theorem mA_10 {lo i : Nat} (h : i < 1) : mA lo (ma10 lo i) := by
  unfold mA ma10
  omega
theorem mk_11 {lo i : Nat} (h : i < 1) : mk lo (ma11 lo i) = (11, i) := by
  unfold mk ma11
  (repeat' split) <;> first | (exfalso; omega) | (refine Prod.ext ?_ ?_ <;> (show _ = _) <;> omega)
theorem mk_i11 {lo q i : Nat} (h : mk lo q = (11, i)) : q = ma11 lo i ∧ i < 1 := by
  unfold mk at h
  unfold ma11
  (repeat' split at h) <;> simp only [Prod.mk.injEq] at h <;> omega
theorem mw_11 {dA : Nat → ClassId} {lo i : Nat} {σ : zS} (h : i < 1) : mw dA lo σ (ma11 lo i) = some (.inl (dA 0, 4, .inl (fun j => σ 11 i j))) := by
  unfold mw
  rw [mk_11 h]
  rfl
theorem mA_11 {lo i : Nat} (h : i < 1) : mA lo (ma11 lo i) := by
  unfold mA ma11
  omega
theorem mk_12 {lo i : Nat} (h : i < 1) : mk lo (ma12 lo i) = (12, i) := by
  unfold mk ma12
  (repeat' split) <;> first | (exfalso; omega) | (refine Prod.ext ?_ ?_ <;> (show _ = _) <;> omega)
theorem mk_i12 {lo q i : Nat} (h : mk lo q = (12, i)) : q = ma12 lo i ∧ i < 1 := by
  unfold mk at h
  unfold ma12
  (repeat' split at h) <;> simp only [Prod.mk.injEq] at h <;> omega
theorem mw_12 {dA : Nat → ClassId} {lo i : Nat} {σ : zS} (h : i < 1) : mw dA lo σ (ma12 lo i) = some (.inl (dA 0, 48, .inl (fun j => σ 12 i j))) := by
  unfold mw
  rw [mk_12 h]
  rfl
theorem mA_12 {lo i : Nat} (h : i < 1) : mA lo (ma12 lo i) := by
  unfold mA ma12
  omega
theorem mk_13 {lo i : Nat} (h : i < 1) : mk lo (ma13 lo i) = (13, i) := by
  unfold mk ma13
  (repeat' split) <;> first | (exfalso; omega) | (refine Prod.ext ?_ ?_ <;> (show _ = _) <;> omega)
theorem mk_i13 {lo q i : Nat} (h : mk lo q = (13, i)) : q = ma13 lo i ∧ i < 1 := by
  unfold mk at h
  unfold ma13
  (repeat' split at h) <;> simp only [Prod.mk.injEq] at h <;> omega
theorem mw_13 {dA : Nat → ClassId} {lo i : Nat} {σ : zS} (h : i < 1) : mw dA lo σ (ma13 lo i) = some (.inl (dA 0, 48, .inl (fun j => σ 13 i j))) := by
  unfold mw
  rw [mk_13 h]
  rfl
theorem mA_13 {lo i : Nat} (h : i < 1) : mA lo (ma13 lo i) := by
  unfold mA ma13
  omega
theorem mk_14 {lo i : Nat} (h : i < 1) : mk lo (ma14 lo i) = (14, i) := by
  unfold mk ma14
  (repeat' split) <;> first | (exfalso; omega) | (refine Prod.ext ?_ ?_ <;> (show _ = _) <;> omega)
theorem mk_i14 {lo q i : Nat} (h : mk lo q = (14, i)) : q = ma14 lo i ∧ i < 1 := by
  unfold mk at h
  unfold ma14
  (repeat' split at h) <;> simp only [Prod.mk.injEq] at h <;> omega
theorem mw_14 {dA : Nat → ClassId} {lo i : Nat} {σ : zS} (h : i < 1) : mw dA lo σ (ma14 lo i) = some (.inl (dA 1, 48, .inl (fun j => σ 14 i j))) := by
  unfold mw
  rw [mk_14 h]
  rfl
theorem mA_14 {lo i : Nat} (h : i < 1) : mA lo (ma14 lo i) := by
  unfold mA ma14
  omega
theorem mk_15 {lo i : Nat} (h : i < 1) : mk lo (ma15 lo i) = (15, i) := by
  unfold mk ma15
  (repeat' split) <;> first | (exfalso; omega) | (refine Prod.ext ?_ ?_ <;> (show _ = _) <;> omega)
theorem mk_i15 {lo q i : Nat} (h : mk lo q = (15, i)) : q = ma15 lo i ∧ i < 1 := by
  unfold mk at h
  unfold ma15
  (repeat' split at h) <;> simp only [Prod.mk.injEq] at h <;> omega
theorem mw_15 {dA : Nat → ClassId} {lo i : Nat} {σ : zS} (h : i < 1) : mw dA lo σ (ma15 lo i) = some (.inl (dA 0, 4, .inl (fun j => σ 15 i j))) := by
  unfold mw
  rw [mk_15 h]
  rfl
theorem mA_15 {lo i : Nat} (h : i < 1) : mA lo (ma15 lo i) := by
  unfold mA ma15
  omega
theorem mw_in {dA : Nat → ClassId} {lo q : Nat} {σ : zS} {e : va_E} (h : mw dA lo σ q = some e) : mA lo q := by
  unfold mw at h
  unfold mA
  by_cases hq : lo ≤ q ∧ q < lo + 16
  · exact hq
  · exfalso
    have : mk lo q = (99, 0) := by
      unfold mk
      rw [if_pos (by omega)]
    rw [this] at h
    cases h
theorem mo_0 {dA : Nat → ClassId} {lo i j κ i' : Nat} {σ : zS} {v : Int32} (h : ¬ (κ = 0 ∧ i' = i)) : me dA lo (z_up σ 0 i j v) κ i' = me dA lo σ κ i' := by
  unfold me
  split <;> simp_all [z_up]
theorem mu_0 {dA : Nat → ClassId} {lo i : Nat} {σ : zS} {v : Int32} (hi : i < 1) : ∀ (q : Nat) (e : va_E), mw dA lo (z_up σ 0 i 0 v) q = some e → va_up (mw dA lo σ) (ma0 lo i) (some (.inr (4, [.int v, .ref (ma1 lo 0), .ref (ma2 lo 0), .ref (ma3 lo 0), .ref (ma4 lo 0), .ref (ma5 lo 0), .ref (ma6 lo 0), .ref (ma7 lo 0), .ref (ma8 lo 0), .ref (ma9 lo 0), .ref (ma10 lo 0), .ref (ma11 lo 0), .ref (ma12 lo 0), .ref (ma13 lo 0), .ref (ma14 lo 0), .ref (ma15 lo 0)]))) q = some e := by
  intro q e h
  by_cases hq : q = ma0 lo i
  · subst hq
    rw [mw_0 hi] at h
    rw [va_up_self, ← h]
    simp [z_up]
  · rw [va_up_ne _ _ hq, ← h]
    unfold mw
    rw [mo_0]
    intro hk
    exact hq (mk_i0 (Prod.ext hk.1 hk.2)).1
theorem mp_0 (C : zC p s m args meth c cc nL own D dA) {index i : Nat} {v : Int32} (hl : Cond.fieldLink own index (F_MM 0).1 (F_MM 0).2.1 (F_MM 0).2.2.1 ∈ zT) (hi : i < 1) (hna : narrow .int (.int v) = .int v) (hfit : fits .int (.int v) = true) (hd : decode cc pc = .ok (.putfield index, 3)) (k : zz p l e R s m args below meth c D (mA lo) nL Q (mw dA lo (z_up σ 0 i 0 v)) n kc ks (pc + 3) lv st) : zz p l e R s m args below meth c D (mA lo) nL Q (mw dA lo σ) n kc ks pc lv (.int v :: .ref (ma0 lo i) :: st) :=
  zz_put C (ci := 4) (N := 16) 0 rfl zi_MM t_MM t_MM_ok n_MM (by decide) hl rfl rfl hna hfit (Nat.le_of_ble_eq_true rfl) (mw_0 hi) (mA_0 hi) hd (zz_mono (mu_0 hi) k)
theorem mpN_0 (C : zC p s m args meth c cc nL own D dA) {index i : Nat} {v : Int32} {host : String} (hl : Cond.fieldLinkNest own index (F_MM 0).1 (F_MM 0).2.1 (F_MM 0).2.2.1 host ∈ zN) (hi : i < 1) (hna : narrow .int (.int v) = .int v) (hfit : fits .int (.int v) = true) (hd : decode cc pc = .ok (.putfield index, 3)) (k : zz p l e R s m args below meth c D (mA lo) nL Q (mw dA lo (z_up σ 0 i 0 v)) n kc ks (pc + 3) lv st) : zz p l e R s m args below meth c D (mA lo) nL Q (mw dA lo σ) n kc ks pc lv (.int v :: .ref (ma0 lo i) :: st) :=
  zz_putN C (ci := 4) (N := 16) 0 rfl zi_MM t_MM t_MM_ok n_MM (by decide) hl rfl rfl hna hfit (Nat.le_of_ble_eq_true rfl) (mw_0 hi) (mA_0 hi) hd (zz_mono (mu_0 hi) k)
theorem mo_1 {dA : Nat → ClassId} {lo i j κ i' : Nat} {σ : zS} {v : Int32} (h : ¬ (κ = 1 ∧ i' = i)) : me dA lo (z_up σ 1 i j v) κ i' = me dA lo σ κ i' := by
  unfold me
  split <;> simp_all [z_up]
theorem mu_1 {dA : Nat → ClassId} {lo i j : Nat} {σ : zS} {v : Int32} (hi : i < 1) : ∀ (q : Nat) (e : va_E), mw dA lo (z_up σ 1 i j v) q = some e → va_up (mw dA lo σ) (ma1 lo i) (some (.inl (dA 0, 10, .inl (upd (fun j => σ 1 i j) j v)))) q = some e := by
  intro q e h
  by_cases hq : q = ma1 lo i
  · subst hq
    rw [mw_1 hi] at h
    rw [va_up_self, ← h]
    refine congrArg some (congrArg Sum.inl (congrArg (Prod.mk _) (congrArg (Prod.mk _) (congrArg Sum.inl (funext fun j' => ?_)))))
    simp [z_up, upd]
  · rw [va_up_ne _ _ hq, ← h]
    unfold mw
    rw [mo_1]
    intro hk
    exact hq (mk_i1 (Prod.ext hk.1 hk.2)).1
theorem ms_1 (C : zC p s m args meth c cc nL own D dA) {i : Nat} {j v : Int32} (hi : i < 1) (hj : vp_in j 10) (hd : decode cc pc = .ok (.iastore, 1)) (k : zz p l e R s m args below meth c D (mA lo) nL Q (mw dA lo (z_up σ 1 i j.toNatClampNeg v)) n kc ks (pc + 1) lv st) : zz p l e R s m args below meth c D (mA lo) nL Q (mw dA lo σ) n kc ks pc lv (.int v :: .int j :: .ref (ma1 lo i) :: st) :=
  zz_iast C (t0 := 0) rfl (mw_1 hi) (mA_1 hi) hj hd (zz_mono (mu_1 hi) k)
theorem mo_2 {dA : Nat → ClassId} {lo i j κ i' : Nat} {σ : zS} {v : Int32} (h : ¬ (κ = 2 ∧ i' = i)) : me dA lo (z_up σ 2 i j v) κ i' = me dA lo σ κ i' := by
  unfold me
  split <;> simp_all [z_up]
theorem mu_2 {dA : Nat → ClassId} {lo i j : Nat} {σ : zS} {v : Int32} (hi : i < 1) : ∀ (q : Nat) (e : va_E), mw dA lo (z_up σ 2 i j v) q = some e → va_up (mw dA lo σ) (ma2 lo i) (some (.inl (dA 0, 10, .inl (upd (fun j => σ 2 i j) j v)))) q = some e := by
  intro q e h
  by_cases hq : q = ma2 lo i
  · subst hq
    rw [mw_2 hi] at h
    rw [va_up_self, ← h]
    refine congrArg some (congrArg Sum.inl (congrArg (Prod.mk _) (congrArg (Prod.mk _) (congrArg Sum.inl (funext fun j' => ?_)))))
    simp [z_up, upd]
  · rw [va_up_ne _ _ hq, ← h]
    unfold mw
    rw [mo_2]
    intro hk
    exact hq (mk_i2 (Prod.ext hk.1 hk.2)).1
theorem ms_2 (C : zC p s m args meth c cc nL own D dA) {i : Nat} {j v : Int32} (hi : i < 1) (hj : vp_in j 10) (hd : decode cc pc = .ok (.iastore, 1)) (k : zz p l e R s m args below meth c D (mA lo) nL Q (mw dA lo (z_up σ 2 i j.toNatClampNeg v)) n kc ks (pc + 1) lv st) : zz p l e R s m args below meth c D (mA lo) nL Q (mw dA lo σ) n kc ks pc lv (.int v :: .int j :: .ref (ma2 lo i) :: st) :=
  zz_iast C (t0 := 0) rfl (mw_2 hi) (mA_2 hi) hj hd (zz_mono (mu_2 hi) k)
theorem mo_3 {dA : Nat → ClassId} {lo i j κ i' : Nat} {σ : zS} {v : Int32} (h : ¬ (κ = 3 ∧ i' = i)) : me dA lo (z_up σ 3 i j v) κ i' = me dA lo σ κ i' := by
  unfold me
  split <;> simp_all [z_up]
theorem mu_3 {dA : Nat → ClassId} {lo i j : Nat} {σ : zS} {v : Int32} (hi : i < 1) : ∀ (q : Nat) (e : va_E), mw dA lo (z_up σ 3 i j v) q = some e → va_up (mw dA lo σ) (ma3 lo i) (some (.inl (dA 0, 10, .inl (upd (fun j => σ 3 i j) j v)))) q = some e := by
  intro q e h
  by_cases hq : q = ma3 lo i
  · subst hq
    rw [mw_3 hi] at h
    rw [va_up_self, ← h]
    refine congrArg some (congrArg Sum.inl (congrArg (Prod.mk _) (congrArg (Prod.mk _) (congrArg Sum.inl (funext fun j' => ?_)))))
    simp [z_up, upd]
  · rw [va_up_ne _ _ hq, ← h]
    unfold mw
    rw [mo_3]
    intro hk
    exact hq (mk_i3 (Prod.ext hk.1 hk.2)).1
theorem ms_3 (C : zC p s m args meth c cc nL own D dA) {i : Nat} {j v : Int32} (hi : i < 1) (hj : vp_in j 10) (hd : decode cc pc = .ok (.iastore, 1)) (k : zz p l e R s m args below meth c D (mA lo) nL Q (mw dA lo (z_up σ 3 i j.toNatClampNeg v)) n kc ks (pc + 1) lv st) : zz p l e R s m args below meth c D (mA lo) nL Q (mw dA lo σ) n kc ks pc lv (.int v :: .int j :: .ref (ma3 lo i) :: st) :=
  zz_iast C (t0 := 0) rfl (mw_3 hi) (mA_3 hi) hj hd (zz_mono (mu_3 hi) k)
theorem mo_4 {dA : Nat → ClassId} {lo i j κ i' : Nat} {σ : zS} {v : Int32} (h : ¬ (κ = 4 ∧ i' = i)) : me dA lo (z_up σ 4 i j v) κ i' = me dA lo σ κ i' := by
  unfold me
  split <;> simp_all [z_up]
theorem mu_4 {dA : Nat → ClassId} {lo i j : Nat} {σ : zS} {v : Int32} (hi : i < 1) : ∀ (q : Nat) (e : va_E), mw dA lo (z_up σ 4 i j v) q = some e → va_up (mw dA lo σ) (ma4 lo i) (some (.inl (dA 0, 10, .inl (upd (fun j => σ 4 i j) j v)))) q = some e := by
  intro q e h
  by_cases hq : q = ma4 lo i
  · subst hq
    rw [mw_4 hi] at h
    rw [va_up_self, ← h]
    refine congrArg some (congrArg Sum.inl (congrArg (Prod.mk _) (congrArg (Prod.mk _) (congrArg Sum.inl (funext fun j' => ?_)))))
    simp [z_up, upd]
  · rw [va_up_ne _ _ hq, ← h]
    unfold mw
    rw [mo_4]
    intro hk
    exact hq (mk_i4 (Prod.ext hk.1 hk.2)).1
theorem ms_4 (C : zC p s m args meth c cc nL own D dA) {i : Nat} {j v : Int32} (hi : i < 1) (hj : vp_in j 10) (hd : decode cc pc = .ok (.iastore, 1)) (k : zz p l e R s m args below meth c D (mA lo) nL Q (mw dA lo (z_up σ 4 i j.toNatClampNeg v)) n kc ks (pc + 1) lv st) : zz p l e R s m args below meth c D (mA lo) nL Q (mw dA lo σ) n kc ks pc lv (.int v :: .int j :: .ref (ma4 lo i) :: st) :=
  zz_iast C (t0 := 0) rfl (mw_4 hi) (mA_4 hi) hj hd (zz_mono (mu_4 hi) k)
theorem mo_5 {dA : Nat → ClassId} {lo i j κ i' : Nat} {σ : zS} {v : Int32} (h : ¬ (κ = 5 ∧ i' = i)) : me dA lo (z_up σ 5 i j v) κ i' = me dA lo σ κ i' := by
  unfold me
  split <;> simp_all [z_up]
theorem mu_5 {dA : Nat → ClassId} {lo i j : Nat} {σ : zS} {v : Int32} (hi : i < 1) : ∀ (q : Nat) (e : va_E), mw dA lo (z_up σ 5 i j v) q = some e → va_up (mw dA lo σ) (ma5 lo i) (some (.inl (dA 0, 40, .inl (upd (fun j => σ 5 i j) j v)))) q = some e := by
  intro q e h
  by_cases hq : q = ma5 lo i
  · subst hq
    rw [mw_5 hi] at h
    rw [va_up_self, ← h]
    refine congrArg some (congrArg Sum.inl (congrArg (Prod.mk _) (congrArg (Prod.mk _) (congrArg Sum.inl (funext fun j' => ?_)))))
    simp [z_up, upd]
  · rw [va_up_ne _ _ hq, ← h]
    unfold mw
    rw [mo_5]
    intro hk
    exact hq (mk_i5 (Prod.ext hk.1 hk.2)).1
theorem ms_5 (C : zC p s m args meth c cc nL own D dA) {i : Nat} {j v : Int32} (hi : i < 1) (hj : vp_in j 40) (hd : decode cc pc = .ok (.iastore, 1)) (k : zz p l e R s m args below meth c D (mA lo) nL Q (mw dA lo (z_up σ 5 i j.toNatClampNeg v)) n kc ks (pc + 1) lv st) : zz p l e R s m args below meth c D (mA lo) nL Q (mw dA lo σ) n kc ks pc lv (.int v :: .int j :: .ref (ma5 lo i) :: st) :=
  zz_iast C (t0 := 0) rfl (mw_5 hi) (mA_5 hi) hj hd (zz_mono (mu_5 hi) k)
theorem mo_6 {dA : Nat → ClassId} {lo i j κ i' : Nat} {σ : zS} {v : Int32} (h : ¬ (κ = 6 ∧ i' = i)) : me dA lo (z_up σ 6 i j v) κ i' = me dA lo σ κ i' := by
  unfold me
  split <;> simp_all [z_up]
theorem mu_6 {dA : Nat → ClassId} {lo i j : Nat} {σ : zS} {v : Int32} (hi : i < 1) : ∀ (q : Nat) (e : va_E), mw dA lo (z_up σ 6 i j v) q = some e → va_up (mw dA lo σ) (ma6 lo i) (some (.inl (dA 0, 40, .inl (upd (fun j => σ 6 i j) j v)))) q = some e := by
  intro q e h
  by_cases hq : q = ma6 lo i
  · subst hq
    rw [mw_6 hi] at h
    rw [va_up_self, ← h]
    refine congrArg some (congrArg Sum.inl (congrArg (Prod.mk _) (congrArg (Prod.mk _) (congrArg Sum.inl (funext fun j' => ?_)))))
    simp [z_up, upd]
  · rw [va_up_ne _ _ hq, ← h]
    unfold mw
    rw [mo_6]
    intro hk
    exact hq (mk_i6 (Prod.ext hk.1 hk.2)).1
theorem ms_6 (C : zC p s m args meth c cc nL own D dA) {i : Nat} {j v : Int32} (hi : i < 1) (hj : vp_in j 40) (hd : decode cc pc = .ok (.iastore, 1)) (k : zz p l e R s m args below meth c D (mA lo) nL Q (mw dA lo (z_up σ 6 i j.toNatClampNeg v)) n kc ks (pc + 1) lv st) : zz p l e R s m args below meth c D (mA lo) nL Q (mw dA lo σ) n kc ks pc lv (.int v :: .int j :: .ref (ma6 lo i) :: st) :=
  zz_iast C (t0 := 0) rfl (mw_6 hi) (mA_6 hi) hj hd (zz_mono (mu_6 hi) k)
theorem mo_7 {dA : Nat → ClassId} {lo i j κ i' : Nat} {σ : zS} {v : Int32} (h : ¬ (κ = 7 ∧ i' = i)) : me dA lo (z_up σ 7 i j v) κ i' = me dA lo σ κ i' := by
  unfold me
  split <;> simp_all [z_up]
theorem mu_7 {dA : Nat → ClassId} {lo i j : Nat} {σ : zS} {v : Int32} (hi : i < 1) : ∀ (q : Nat) (e : va_E), mw dA lo (z_up σ 7 i j v) q = some e → va_up (mw dA lo σ) (ma7 lo i) (some (.inl (dA 0, 160, .inl (upd (fun j => σ 7 i j) j v)))) q = some e := by
  intro q e h
  by_cases hq : q = ma7 lo i
  · subst hq
    rw [mw_7 hi] at h
    rw [va_up_self, ← h]
    refine congrArg some (congrArg Sum.inl (congrArg (Prod.mk _) (congrArg (Prod.mk _) (congrArg Sum.inl (funext fun j' => ?_)))))
    simp [z_up, upd]
  · rw [va_up_ne _ _ hq, ← h]
    unfold mw
    rw [mo_7]
    intro hk
    exact hq (mk_i7 (Prod.ext hk.1 hk.2)).1
theorem ms_7 (C : zC p s m args meth c cc nL own D dA) {i : Nat} {j v : Int32} (hi : i < 1) (hj : vp_in j 160) (hd : decode cc pc = .ok (.iastore, 1)) (k : zz p l e R s m args below meth c D (mA lo) nL Q (mw dA lo (z_up σ 7 i j.toNatClampNeg v)) n kc ks (pc + 1) lv st) : zz p l e R s m args below meth c D (mA lo) nL Q (mw dA lo σ) n kc ks pc lv (.int v :: .int j :: .ref (ma7 lo i) :: st) :=
  zz_iast C (t0 := 0) rfl (mw_7 hi) (mA_7 hi) hj hd (zz_mono (mu_7 hi) k)
theorem mo_8 {dA : Nat → ClassId} {lo i j κ i' : Nat} {σ : zS} {v : Int32} (h : ¬ (κ = 8 ∧ i' = i)) : me dA lo (z_up σ 8 i j v) κ i' = me dA lo σ κ i' := by
  unfold me
  split <;> simp_all [z_up]
theorem mu_8 {dA : Nat → ClassId} {lo i j : Nat} {σ : zS} {v : Int32} (hi : i < 1) : ∀ (q : Nat) (e : va_E), mw dA lo (z_up σ 8 i j v) q = some e → va_up (mw dA lo σ) (ma8 lo i) (some (.inl (dA 1, 40, .inl (upd (fun j => σ 8 i j) j v)))) q = some e := by
  intro q e h
  by_cases hq : q = ma8 lo i
  · subst hq
    rw [mw_8 hi] at h
    rw [va_up_self, ← h]
    refine congrArg some (congrArg Sum.inl (congrArg (Prod.mk _) (congrArg (Prod.mk _) (congrArg Sum.inl (funext fun j' => ?_)))))
    simp [z_up, upd]
  · rw [va_up_ne _ _ hq, ← h]
    unfold mw
    rw [mo_8]
    intro hk
    exact hq (mk_i8 (Prod.ext hk.1 hk.2)).1
theorem ms_8 (C : zC p s m args meth c cc nL own D dA) {i : Nat} {j v : Int32} (hi : i < 1) (hj : vp_in j 40) (hd : decode cc pc = .ok (.bastore, 1)) (k : zz p l e R s m args below meth c D (mA lo) nL Q (mw dA lo (z_up σ 8 i j.toNatClampNeg (vp_nar .boolean v))) n kc ks (pc + 1) lv st) : zz p l e R s m args below meth c D (mA lo) nL Q (mw dA lo σ) n kc ks pc lv (.int v :: .int j :: .ref (ma8 lo i) :: st) :=
  zz_zast C (t0 := 1) rfl (mw_8 hi) (mA_8 hi) hj hd (zz_mono (mu_8 hi) k)
theorem mo_9 {dA : Nat → ClassId} {lo i j κ i' : Nat} {σ : zS} {v : Int32} (h : ¬ (κ = 9 ∧ i' = i)) : me dA lo (z_up σ 9 i j v) κ i' = me dA lo σ κ i' := by
  unfold me
  split <;> simp_all [z_up]
theorem mu_9 {dA : Nat → ClassId} {lo i j : Nat} {σ : zS} {v : Int32} (hi : i < 1) : ∀ (q : Nat) (e : va_E), mw dA lo (z_up σ 9 i j v) q = some e → va_up (mw dA lo σ) (ma9 lo i) (some (.inl (dA 1, 4, .inl (upd (fun j => σ 9 i j) j v)))) q = some e := by
  intro q e h
  by_cases hq : q = ma9 lo i
  · subst hq
    rw [mw_9 hi] at h
    rw [va_up_self, ← h]
    refine congrArg some (congrArg Sum.inl (congrArg (Prod.mk _) (congrArg (Prod.mk _) (congrArg Sum.inl (funext fun j' => ?_)))))
    simp [z_up, upd]
  · rw [va_up_ne _ _ hq, ← h]
    unfold mw
    rw [mo_9]
    intro hk
    exact hq (mk_i9 (Prod.ext hk.1 hk.2)).1
theorem ms_9 (C : zC p s m args meth c cc nL own D dA) {i : Nat} {j v : Int32} (hi : i < 1) (hj : vp_in j 4) (hd : decode cc pc = .ok (.bastore, 1)) (k : zz p l e R s m args below meth c D (mA lo) nL Q (mw dA lo (z_up σ 9 i j.toNatClampNeg (vp_nar .boolean v))) n kc ks (pc + 1) lv st) : zz p l e R s m args below meth c D (mA lo) nL Q (mw dA lo σ) n kc ks pc lv (.int v :: .int j :: .ref (ma9 lo i) :: st) :=
  zz_zast C (t0 := 1) rfl (mw_9 hi) (mA_9 hi) hj hd (zz_mono (mu_9 hi) k)
theorem mo_10 {dA : Nat → ClassId} {lo i j κ i' : Nat} {σ : zS} {v : Int32} (h : ¬ (κ = 10 ∧ i' = i)) : me dA lo (z_up σ 10 i j v) κ i' = me dA lo σ κ i' := by
  unfold me
  split <;> simp_all [z_up]
theorem mu_10 {dA : Nat → ClassId} {lo i j : Nat} {σ : zS} {v : Int32} (hi : i < 1) : ∀ (q : Nat) (e : va_E), mw dA lo (z_up σ 10 i j v) q = some e → va_up (mw dA lo σ) (ma10 lo i) (some (.inl (dA 1, 4, .inl (upd (fun j => σ 10 i j) j v)))) q = some e := by
  intro q e h
  by_cases hq : q = ma10 lo i
  · subst hq
    rw [mw_10 hi] at h
    rw [va_up_self, ← h]
    refine congrArg some (congrArg Sum.inl (congrArg (Prod.mk _) (congrArg (Prod.mk _) (congrArg Sum.inl (funext fun j' => ?_)))))
    simp [z_up, upd]
  · rw [va_up_ne _ _ hq, ← h]
    unfold mw
    rw [mo_10]
    intro hk
    exact hq (mk_i10 (Prod.ext hk.1 hk.2)).1
theorem ms_10 (C : zC p s m args meth c cc nL own D dA) {i : Nat} {j v : Int32} (hi : i < 1) (hj : vp_in j 4) (hd : decode cc pc = .ok (.bastore, 1)) (k : zz p l e R s m args below meth c D (mA lo) nL Q (mw dA lo (z_up σ 10 i j.toNatClampNeg (vp_nar .boolean v))) n kc ks (pc + 1) lv st) : zz p l e R s m args below meth c D (mA lo) nL Q (mw dA lo σ) n kc ks pc lv (.int v :: .int j :: .ref (ma10 lo i) :: st) :=
  zz_zast C (t0 := 1) rfl (mw_10 hi) (mA_10 hi) hj hd (zz_mono (mu_10 hi) k)
theorem mo_11 {dA : Nat → ClassId} {lo i j κ i' : Nat} {σ : zS} {v : Int32} (h : ¬ (κ = 11 ∧ i' = i)) : me dA lo (z_up σ 11 i j v) κ i' = me dA lo σ κ i' := by
  unfold me
  split <;> simp_all [z_up]
theorem mu_11 {dA : Nat → ClassId} {lo i j : Nat} {σ : zS} {v : Int32} (hi : i < 1) : ∀ (q : Nat) (e : va_E), mw dA lo (z_up σ 11 i j v) q = some e → va_up (mw dA lo σ) (ma11 lo i) (some (.inl (dA 0, 4, .inl (upd (fun j => σ 11 i j) j v)))) q = some e := by
  intro q e h
  by_cases hq : q = ma11 lo i
  · subst hq
    rw [mw_11 hi] at h
    rw [va_up_self, ← h]
    refine congrArg some (congrArg Sum.inl (congrArg (Prod.mk _) (congrArg (Prod.mk _) (congrArg Sum.inl (funext fun j' => ?_)))))
    simp [z_up, upd]
  · rw [va_up_ne _ _ hq, ← h]
    unfold mw
    rw [mo_11]
    intro hk
    exact hq (mk_i11 (Prod.ext hk.1 hk.2)).1
theorem ms_11 (C : zC p s m args meth c cc nL own D dA) {i : Nat} {j v : Int32} (hi : i < 1) (hj : vp_in j 4) (hd : decode cc pc = .ok (.iastore, 1)) (k : zz p l e R s m args below meth c D (mA lo) nL Q (mw dA lo (z_up σ 11 i j.toNatClampNeg v)) n kc ks (pc + 1) lv st) : zz p l e R s m args below meth c D (mA lo) nL Q (mw dA lo σ) n kc ks pc lv (.int v :: .int j :: .ref (ma11 lo i) :: st) :=
  zz_iast C (t0 := 0) rfl (mw_11 hi) (mA_11 hi) hj hd (zz_mono (mu_11 hi) k)
theorem mo_12 {dA : Nat → ClassId} {lo i j κ i' : Nat} {σ : zS} {v : Int32} (h : ¬ (κ = 12 ∧ i' = i)) : me dA lo (z_up σ 12 i j v) κ i' = me dA lo σ κ i' := by
  unfold me
  split <;> simp_all [z_up]
theorem mu_12 {dA : Nat → ClassId} {lo i j : Nat} {σ : zS} {v : Int32} (hi : i < 1) : ∀ (q : Nat) (e : va_E), mw dA lo (z_up σ 12 i j v) q = some e → va_up (mw dA lo σ) (ma12 lo i) (some (.inl (dA 0, 48, .inl (upd (fun j => σ 12 i j) j v)))) q = some e := by
  intro q e h
  by_cases hq : q = ma12 lo i
  · subst hq
    rw [mw_12 hi] at h
    rw [va_up_self, ← h]
    refine congrArg some (congrArg Sum.inl (congrArg (Prod.mk _) (congrArg (Prod.mk _) (congrArg Sum.inl (funext fun j' => ?_)))))
    simp [z_up, upd]
  · rw [va_up_ne _ _ hq, ← h]
    unfold mw
    rw [mo_12]
    intro hk
    exact hq (mk_i12 (Prod.ext hk.1 hk.2)).1
theorem ms_12 (C : zC p s m args meth c cc nL own D dA) {i : Nat} {j v : Int32} (hi : i < 1) (hj : vp_in j 48) (hd : decode cc pc = .ok (.iastore, 1)) (k : zz p l e R s m args below meth c D (mA lo) nL Q (mw dA lo (z_up σ 12 i j.toNatClampNeg v)) n kc ks (pc + 1) lv st) : zz p l e R s m args below meth c D (mA lo) nL Q (mw dA lo σ) n kc ks pc lv (.int v :: .int j :: .ref (ma12 lo i) :: st) :=
  zz_iast C (t0 := 0) rfl (mw_12 hi) (mA_12 hi) hj hd (zz_mono (mu_12 hi) k)
theorem mo_13 {dA : Nat → ClassId} {lo i j κ i' : Nat} {σ : zS} {v : Int32} (h : ¬ (κ = 13 ∧ i' = i)) : me dA lo (z_up σ 13 i j v) κ i' = me dA lo σ κ i' := by
  unfold me
  split <;> simp_all [z_up]
theorem mu_13 {dA : Nat → ClassId} {lo i j : Nat} {σ : zS} {v : Int32} (hi : i < 1) : ∀ (q : Nat) (e : va_E), mw dA lo (z_up σ 13 i j v) q = some e → va_up (mw dA lo σ) (ma13 lo i) (some (.inl (dA 0, 48, .inl (upd (fun j => σ 13 i j) j v)))) q = some e := by
  intro q e h
  by_cases hq : q = ma13 lo i
  · subst hq
    rw [mw_13 hi] at h
    rw [va_up_self, ← h]
    refine congrArg some (congrArg Sum.inl (congrArg (Prod.mk _) (congrArg (Prod.mk _) (congrArg Sum.inl (funext fun j' => ?_)))))
    simp [z_up, upd]
  · rw [va_up_ne _ _ hq, ← h]
    unfold mw
    rw [mo_13]
    intro hk
    exact hq (mk_i13 (Prod.ext hk.1 hk.2)).1
theorem ms_13 (C : zC p s m args meth c cc nL own D dA) {i : Nat} {j v : Int32} (hi : i < 1) (hj : vp_in j 48) (hd : decode cc pc = .ok (.iastore, 1)) (k : zz p l e R s m args below meth c D (mA lo) nL Q (mw dA lo (z_up σ 13 i j.toNatClampNeg v)) n kc ks (pc + 1) lv st) : zz p l e R s m args below meth c D (mA lo) nL Q (mw dA lo σ) n kc ks pc lv (.int v :: .int j :: .ref (ma13 lo i) :: st) :=
  zz_iast C (t0 := 0) rfl (mw_13 hi) (mA_13 hi) hj hd (zz_mono (mu_13 hi) k)
theorem mo_14 {dA : Nat → ClassId} {lo i j κ i' : Nat} {σ : zS} {v : Int32} (h : ¬ (κ = 14 ∧ i' = i)) : me dA lo (z_up σ 14 i j v) κ i' = me dA lo σ κ i' := by
  unfold me
  split <;> simp_all [z_up]
theorem mu_14 {dA : Nat → ClassId} {lo i j : Nat} {σ : zS} {v : Int32} (hi : i < 1) : ∀ (q : Nat) (e : va_E), mw dA lo (z_up σ 14 i j v) q = some e → va_up (mw dA lo σ) (ma14 lo i) (some (.inl (dA 1, 48, .inl (upd (fun j => σ 14 i j) j v)))) q = some e := by
  intro q e h
  by_cases hq : q = ma14 lo i
  · subst hq
    rw [mw_14 hi] at h
    rw [va_up_self, ← h]
    refine congrArg some (congrArg Sum.inl (congrArg (Prod.mk _) (congrArg (Prod.mk _) (congrArg Sum.inl (funext fun j' => ?_)))))
    simp [z_up, upd]
  · rw [va_up_ne _ _ hq, ← h]
    unfold mw
    rw [mo_14]
    intro hk
    exact hq (mk_i14 (Prod.ext hk.1 hk.2)).1
theorem ms_14 (C : zC p s m args meth c cc nL own D dA) {i : Nat} {j v : Int32} (hi : i < 1) (hj : vp_in j 48) (hd : decode cc pc = .ok (.bastore, 1)) (k : zz p l e R s m args below meth c D (mA lo) nL Q (mw dA lo (z_up σ 14 i j.toNatClampNeg (vp_nar .boolean v))) n kc ks (pc + 1) lv st) : zz p l e R s m args below meth c D (mA lo) nL Q (mw dA lo σ) n kc ks pc lv (.int v :: .int j :: .ref (ma14 lo i) :: st) :=
  zz_zast C (t0 := 1) rfl (mw_14 hi) (mA_14 hi) hj hd (zz_mono (mu_14 hi) k)
theorem mo_15 {dA : Nat → ClassId} {lo i j κ i' : Nat} {σ : zS} {v : Int32} (h : ¬ (κ = 15 ∧ i' = i)) : me dA lo (z_up σ 15 i j v) κ i' = me dA lo σ κ i' := by
  unfold me
  split <;> simp_all [z_up]
theorem mu_15 {dA : Nat → ClassId} {lo i j : Nat} {σ : zS} {v : Int32} (hi : i < 1) : ∀ (q : Nat) (e : va_E), mw dA lo (z_up σ 15 i j v) q = some e → va_up (mw dA lo σ) (ma15 lo i) (some (.inl (dA 0, 4, .inl (upd (fun j => σ 15 i j) j v)))) q = some e := by
  intro q e h
  by_cases hq : q = ma15 lo i
  · subst hq
    rw [mw_15 hi] at h
    rw [va_up_self, ← h]
    refine congrArg some (congrArg Sum.inl (congrArg (Prod.mk _) (congrArg (Prod.mk _) (congrArg Sum.inl (funext fun j' => ?_)))))
    simp [z_up, upd]
  · rw [va_up_ne _ _ hq, ← h]
    unfold mw
    rw [mo_15]
    intro hk
    exact hq (mk_i15 (Prod.ext hk.1 hk.2)).1
theorem ms_15 (C : zC p s m args meth c cc nL own D dA) {i : Nat} {j v : Int32} (hi : i < 1) (hj : vp_in j 4) (hd : decode cc pc = .ok (.iastore, 1)) (k : zz p l e R s m args below meth c D (mA lo) nL Q (mw dA lo (z_up σ 15 i j.toNatClampNeg v)) n kc ks (pc + 1) lv st) : zz p l e R s m args below meth c D (mA lo) nL Q (mw dA lo σ) n kc ks pc lv (.int v :: .int j :: .ref (ma15 lo i) :: st) :=
  zz_iast C (t0 := 0) rfl (mw_15 hi) (mA_15 hi) hj hd (zz_mono (mu_15 hi) k)
abbrev mZ (p : Program) (l : Launch) (e : Env) (K : Nat) (s : State) (m : MethodId) (args : Array Value) (below : List Frame) (meth : Method) (c : Code) (D : va_G) (dA : Nat → ClassId) (lo nL n : Nat) (r : Option Value) (σ' σ : zS) (pc : Nat) (lv : zL) (st : List Value) : Prop := zz p l e (zR K) s m args below meth c D (mA lo) nL (MQ below (zQ D (mA lo) r (mw dA lo σ') n) args s 0 0 (mA lo)) (mw dA lo σ) n 0 0 pc lv st
abbrev mM (l : Launch) (y : MethodName) (bytes : ByteArray) (maxL : Nat) (ret : Option FieldType) (K : Nat) (D : va_G) (dA : Nat → ClassId) (lo n : Nat) (av : List Value) (σ : zS) (r : Option Value) (σ' : zS) : Prop := zM l y bytes maxL ret (zR K) D dA (mA lo) av (mw dA lo σ) n r (mw dA lo σ') n 0 0
theorem mc_Vi (C : zC p s m args meth c cc nL own D dA) {y : MethodName} {bytes : ByteArray} {maxL K K' : Nat} {ret : Option FieldType} {As rest st0 : List Value} {b ci N idx na : Nat} {v : Int32} {fs : List Value} {T : u_T} {σ' : zS} (hrc : mw dA lo σ b = some (.inr (ci, fs))) (hcl : classes[ci]? = some (y.cls, T, N)) (site : zSiteV own idx y na) (hM : mM l y bytes maxL ret K D dA lo n (.ref b :: As) σ (some (.int v)) σ') (hst : st0 = As.reverse ++ .ref b :: rest) (hna : As.length = na) (hd : decode cc pc = .ok (.invokevirtual idx, 3)) (hcode : Cond.code y bytes maxL ret ∈ zT) (hK : K + 1 ≤ K' ∧ maxL ≤ 21) (hcat : Nat.ble (rest.map fun v => v.category).sum 8 = true) (k : zz p l e (zR K') s m args below meth c D (mA lo) nL Q (mw dA lo σ') n 0 0 (pc + 3) lv (.int v :: rest)) : zz p l e (zR K') s m args below meth c D (mA lo) nL Q (mw dA lo σ) n 0 0 pc lv st0 :=
  zz_callVi (host := "") C hrc hcl site hM hst hna hd hcode (fun _ _ h => h) (fun _ h => h) (fun _ _ h => Or.inl h) ⟨rfl, rfl⟩ (zR_le hK) ⟨Nat.le_refl _, Nat.le_refl _⟩ (Nat.le_of_ble_eq_true hcat) k
theorem mc_Vv (C : zC p s m args meth c cc nL own D dA) {y : MethodName} {bytes : ByteArray} {maxL K K' : Nat} {ret : Option FieldType} {As rest st0 : List Value} {b ci N idx na : Nat} {fs : List Value} {T : u_T} {σ' : zS} (hrc : mw dA lo σ b = some (.inr (ci, fs))) (hcl : classes[ci]? = some (y.cls, T, N)) (site : zSiteV own idx y na) (hM : mM l y bytes maxL ret K D dA lo n (.ref b :: As) σ none σ') (hst : st0 = As.reverse ++ .ref b :: rest) (hna : As.length = na) (hd : decode cc pc = .ok (.invokevirtual idx, 3)) (hcode : Cond.code y bytes maxL ret ∈ zT) (hK : K + 1 ≤ K' ∧ maxL ≤ 21) (hcat : Nat.ble (rest.map fun v => v.category).sum 8 = true) (k : zz p l e (zR K') s m args below meth c D (mA lo) nL Q (mw dA lo σ') n 0 0 (pc + 3) lv rest) : zz p l e (zR K') s m args below meth c D (mA lo) nL Q (mw dA lo σ) n 0 0 pc lv st0 :=
  zz_callVv (host := "") (x := 0) C hrc hcl site hM hst hna hd hcode (fun _ _ h => h) (fun _ h => h) (fun _ _ h => Or.inl h) ⟨rfl, rfl⟩ (zR_le hK) ⟨Nat.le_refl _, Nat.le_refl _⟩ (Nat.le_of_ble_eq_true hcat) k
theorem mc_VNi (C : zC p s m args meth c cc nL own D dA) {y : MethodName} {bytes : ByteArray} {maxL K K' : Nat} {ret : Option FieldType} {As rest st0 : List Value} {b ci N idx na : Nat} {v : Int32} {fs : List Value} {T : u_T} {σ' : zS} {host : String} (hrc : mw dA lo σ b = some (.inr (ci, fs))) (hcl : classes[ci]? = some (y.cls, T, N)) (site : zSiteVN own idx y host na) (hM : mM l y bytes maxL ret K D dA lo n (.ref b :: As) σ (some (.int v)) σ') (hst : st0 = As.reverse ++ .ref b :: rest) (hna : As.length = na) (hd : decode cc pc = .ok (.invokevirtual idx, 3)) (hcode : Cond.code y bytes maxL ret ∈ zT) (hK : K + 1 ≤ K' ∧ maxL ≤ 21) (hcat : Nat.ble (rest.map fun v => v.category).sum 8 = true) (k : zz p l e (zR K') s m args below meth c D (mA lo) nL Q (mw dA lo σ') n 0 0 (pc + 3) lv (.int v :: rest)) : zz p l e (zR K') s m args below meth c D (mA lo) nL Q (mw dA lo σ) n 0 0 pc lv st0 :=
  zz_callVNi C hrc hcl site hM hst hna hd hcode (fun _ _ h => h) (fun _ h => h) (fun _ _ h => Or.inl h) ⟨rfl, rfl⟩ (zR_le hK) ⟨Nat.le_refl _, Nat.le_refl _⟩ (Nat.le_of_ble_eq_true hcat) k
theorem mc_VNv (C : zC p s m args meth c cc nL own D dA) {y : MethodName} {bytes : ByteArray} {maxL K K' : Nat} {ret : Option FieldType} {As rest st0 : List Value} {b ci N idx na : Nat} {fs : List Value} {T : u_T} {σ' : zS} {host : String} (hrc : mw dA lo σ b = some (.inr (ci, fs))) (hcl : classes[ci]? = some (y.cls, T, N)) (site : zSiteVN own idx y host na) (hM : mM l y bytes maxL ret K D dA lo n (.ref b :: As) σ none σ') (hst : st0 = As.reverse ++ .ref b :: rest) (hna : As.length = na) (hd : decode cc pc = .ok (.invokevirtual idx, 3)) (hcode : Cond.code y bytes maxL ret ∈ zT) (hK : K + 1 ≤ K' ∧ maxL ≤ 21) (hcat : Nat.ble (rest.map fun v => v.category).sum 8 = true) (k : zz p l e (zR K') s m args below meth c D (mA lo) nL Q (mw dA lo σ') n 0 0 (pc + 3) lv rest) : zz p l e (zR K') s m args below meth c D (mA lo) nL Q (mw dA lo σ) n 0 0 pc lv st0 :=
  zz_callVNv (x := 0) C hrc hcl site hM hst hna hd hcode (fun _ _ h => h) (fun _ h => h) (fun _ _ h => Or.inl h) ⟨rfl, rfl⟩ (zR_le hK) ⟨Nat.le_refl _, Nat.le_refl _⟩ (Nat.le_of_ble_eq_true hcat) k
theorem mc_Si (C : zC p s m args meth c cc nL own D dA) {y : MethodName} {bytes : ByteArray} {maxL K K' : Nat} {ret : Option FieldType} {As rest st0 : List Value} {idx na : Nat} {v : Int32} {σ' : zS} (site : zSiteS own idx y na) (hM : mM l y bytes maxL ret K D dA lo n As σ (some (.int v)) σ') (hst : st0 = As.reverse ++ rest) (hna : As.length = na) (hd : decode cc pc = .ok (.invokestatic idx, 3)) (hcode : Cond.code y bytes maxL ret ∈ zT) (hK : K + 1 ≤ K' ∧ maxL ≤ 21) (hcat : Nat.ble (rest.map fun v => v.category).sum 8 = true) (k : zz p l e (zR K') s m args below meth c D (mA lo) nL Q (mw dA lo σ') n 0 0 (pc + 3) lv (.int v :: rest)) : zz p l e (zR K') s m args below meth c D (mA lo) nL Q (mw dA lo σ) n 0 0 pc lv st0 :=
  zz_callSi (b := 0) (host := "") C site hM hst hna hd hcode (fun _ _ h => h) (fun _ h => h) (fun _ _ h => Or.inl h) ⟨rfl, rfl⟩ (zR_le hK) ⟨Nat.le_refl _, Nat.le_refl _⟩ (Nat.le_of_ble_eq_true hcat) k
theorem mc_Sv (C : zC p s m args meth c cc nL own D dA) {y : MethodName} {bytes : ByteArray} {maxL K K' : Nat} {ret : Option FieldType} {As rest st0 : List Value} {idx na : Nat} {σ' : zS} (site : zSiteS own idx y na) (hM : mM l y bytes maxL ret K D dA lo n As σ none σ') (hst : st0 = As.reverse ++ rest) (hna : As.length = na) (hd : decode cc pc = .ok (.invokestatic idx, 3)) (hcode : Cond.code y bytes maxL ret ∈ zT) (hK : K + 1 ≤ K' ∧ maxL ≤ 21) (hcat : Nat.ble (rest.map fun v => v.category).sum 8 = true) (k : zz p l e (zR K') s m args below meth c D (mA lo) nL Q (mw dA lo σ') n 0 0 (pc + 3) lv rest) : zz p l e (zR K') s m args below meth c D (mA lo) nL Q (mw dA lo σ) n 0 0 pc lv st0 :=
  zz_callSv (b := 0) (host := "") (x := 0) C site hM hst hna hd hcode (fun _ _ h => h) (fun _ h => h) (fun _ _ h => Or.inl h) ⟨rfl, rfl⟩ (zR_le hK) ⟨Nat.le_refl _, Nat.le_refl _⟩ (Nat.le_of_ble_eq_true hcat) k
theorem mr_i (C : zC p s m args meth c cc nL own D dA) {ty : FieldType} {a b : Int32} {σ' : zS} (hr : meth.sig.returnType = some ty) (hna : narrow ty (.int a) = .int a) (hd : decode cc pc = .ok (.ireturn, 1)) (hx : a = b) (hσ : σ = σ') : zz p l e R s m args below meth c D (mA lo) nL (MQ below (zQ D (mA lo) (some (.int b)) (mw dA lo σ') n) args s 0 0 (mA lo)) (mw dA lo σ) n 0 0 pc lv [.int a] :=
  zz_iret C hr hna hd (Nat.le_refl _) (Nat.le_refl _) rfl hx (by rw [hσ]; exact fun _ _ h => h)
theorem mr_v (C : zC p s m args meth c cc nL own D dA) {σ' : zS} (hr : meth.sig.returnType = none) (hd : decode cc pc = .ok (.return_, 1)) (hσ : σ = σ') : zz p l e R s m args below meth c D (mA lo) nL (MQ below (zQ D (mA lo) none (mw dA lo σ') n) args s 0 0 (mA lo)) (mw dA lo σ) n 0 0 pc lv [] :=
  zz_vret C hr hd (Nat.le_refl _) (Nat.le_refl _) rfl (by rw [hσ]; exact fun _ _ h => h)
end ML
