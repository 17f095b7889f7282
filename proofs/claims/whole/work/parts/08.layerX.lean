section XL
variable {p : Program} {l : Launch} {e : Env} {R : Room} {s : State} {m : MethodId} {args : Array Value} {below : List Frame} {meth : Method} {c : Code} {cc : ByteArray} {nL : Nat} {own : String} {D : va_G} {dA : Nat → ClassId} {Q : State → Prop} {σ : zS} {lo n kc ks pc : Nat} {lv : zL} {st : List Value}
def xa0 (lo i : Nat) : Nat := lo + i
def xa1 (lo i : Nat) : Nat := lo + 1 + i
def xa2 (lo i : Nat) : Nat := lo + 2 + i
def xa3 (lo i : Nat) : Nat := lo + 3 + i
def xa4 (lo i : Nat) : Nat := lo + 4 + i
def xa5 (lo i : Nat) : Nat := lo + 5 + i
def xa6 (lo i : Nat) : Nat := lo + 6 + i
def xa7 (lo i : Nat) : Nat := lo + 16 + 2 * i
def xa8 (lo i : Nat) : Nat := lo + 17 + 2 * i
def xa9 (lo i : Nat) : Nat := lo + 96 + 4 * i
def xa10 (lo i : Nat) : Nat := lo + 97 + 4 * i
def xa11 (lo i : Nat) : Nat := lo + 98 + 4 * i
def xa12 (lo i : Nat) : Nat := lo + 99 + 4 * i
def xk (lo q : Nat) : Nat × Nat := if q < lo ∨ lo + 112 ≤ q then (99, 0) else if q - lo < 6 then (q - lo, 0) else if q - lo < 16 then (6, q - lo - 6) else if q - lo < 96 then (7 + (q - lo - 16) % 2, (q - lo - 16) / 2) else (9 + (q - lo - 96) % 4, (q - lo - 96) / 4)
def xe (dA : Nat → ClassId) (lo : Nat) (σ : zS) (κ i : Nat) : Option va_E := match κ with
  | 0 => some (.inr (3, [.ref (xa1 lo 0), .ref (xa2 lo 0), .ref (xa3 lo 0), .ref (xa4 lo 0), .ref (xa5 lo 0), .int (σ 16 i 0), .int (σ 17 i 0), .int (σ 18 i 0)]))
  | 1 => some (.inl (dA 2, 10, .inr (.inr (.inr (.inr (fun j => if j < 10 then some (xa6 lo j) else none))))))
  | 2 => some (.inl (dA 3, 40, .inr (.inr (.inr (.inr (fun j => if j < 40 then some (xa7 lo j) else none))))))
  | 3 => some (.inl (dA 4, 4, .inr (.inr (.inr (.inr (fun j => if j < 4 then some (xa9 lo j) else none))))))
  | 4 => some (.inl (dA 0, 4, .inl (fun j => σ 14 i j)))
  | 5 => some (.inl (dA 0, 40, .inl (fun j => σ 15 i j)))
  | 6 => some (.inr (0, [.int (σ 0 i 0), .int (σ 1 i 0), .int (σ 2 i 0), .int (σ 3 i 0), .int (σ 4 i 0)]))
  | 7 => some (.inr (1, [.ref (xa8 lo i), .int (σ 6 i 0), .int (σ 7 i 0), .int (σ 8 i 0)]))
  | 8 => some (.inl (dA 0, 4, .inl (fun j => σ 5 i j)))
  | 9 => some (.inr (2, [.ref (xa10 lo i), .ref (xa11 lo i), .ref (xa12 lo i), .int (σ 12 i 0), .int (σ 13 i 0)]))
  | 10 => some (.inl (dA 0, 12, .inl (fun j => σ 9 i j)))
  | 11 => some (.inl (dA 0, 12, .inl (fun j => σ 10 i j)))
  | 12 => some (.inl (dA 1, 12, .inl (fun j => σ 11 i j)))
  | _ => none
def xw (dA : Nat → ClassId) (lo : Nat) (σ : zS) : zW := fun q => xe dA lo σ (xk lo q).1 (xk lo q).2
def xA (lo : Nat) : Nat → Prop := fun q => lo ≤ q ∧ q < lo + 112
theorem xk_0 {lo i : Nat} (h : i < 1) : xk lo (xa0 lo i) = (0, i) := by
  unfold xk xa0
  (repeat' split) <;> first | (exfalso; omega) | (refine Prod.ext ?_ ?_ <;> (show _ = _) <;> omega)
theorem xk_i0 {lo q i : Nat} (h : xk lo q = (0, i)) : q = xa0 lo i ∧ i < 1 := by
  unfold xk at h
  unfold xa0
  (repeat' split at h) <;> simp only [Prod.mk.injEq] at h <;> omega
theorem xw_0 {dA : Nat → ClassId} {lo i : Nat} {σ : zS} (h : i < 1) : xw dA lo σ (xa0 lo i) = some (.inr (3, [.ref (xa1 lo 0), .ref (xa2 lo 0), .ref (xa3 lo 0), .ref (xa4 lo 0), .ref (xa5 lo 0), .int (σ 16 i 0), .int (σ 17 i 0), .int (σ 18 i 0)])) := by
  unfold xw
  rw [xk_0 h]
  rfl
theorem xA_0 {lo i : Nat} (h : i < 1) : xA lo (xa0 lo i) := by
  unfold xA xa0
  omega
theorem xk_1 {lo i : Nat} (h : i < 1) : xk lo (xa1 lo i) = (1, i) := by
  unfold xk xa1
  (repeat' split) <;> first | (exfalso; omega) | (refine Prod.ext ?_ ?_ <;> (show _ = _) <;> omega)
theorem xk_i1 {lo q i : Nat} (h : xk lo q = (1, i)) : q = xa1 lo i ∧ i < 1 := by
  unfold xk at h
  unfold xa1
  (repeat' split at h) <;> simp only [Prod.mk.injEq] at h <;> omega
theorem xw_1 {dA : Nat → ClassId} {lo i : Nat} {σ : zS} (h : i < 1) : xw dA lo σ (xa1 lo i) = some (.inl (dA 2, 10, .inr (.inr (.inr (.inr (fun j => if j < 10 then some (xa6 lo j) else none)))))) := by
  unfold xw
  rw [xk_1 h]
  rfl
theorem xA_1 {lo i : Nat} (h : i < 1) : xA lo (xa1 lo i) := by
  unfold xA xa1
  omega
theorem xk_2 {lo i : Nat} (h : i < 1) : xk lo (xa2 lo i) = (2, i) := by
  unfold xk xa2
  (repeat' split) <;> first | (exfalso; omega) | (refine Prod.ext ?_ ?_ <;> (show _ = _) <;> omega)
theorem xk_i2 {lo q i : Nat} (h : xk lo q = (2, i)) : q = xa2 lo i ∧ i < 1 := by
  unfold xk at h
  unfold xa2
  (repeat' split at h) <;> simp only [Prod.mk.injEq] at h <;> omega
theorem xw_2 {dA : Nat → ClassId} {lo i : Nat} {σ : zS} (h : i < 1) : xw dA lo σ (xa2 lo i) = some (.inl (dA 3, 40, .inr (.inr (.inr (.inr (fun j => if j < 40 then some (xa7 lo j) else none)))))) := by
  unfold xw
  rw [xk_2 h]
  rfl
theorem xA_2 {lo i : Nat} (h : i < 1) : xA lo (xa2 lo i) := by
  unfold xA xa2
  omega
theorem xk_3 {lo i : Nat} (h : i < 1) : xk lo (xa3 lo i) = (3, i) := by
  unfold xk xa3
  (repeat' split) <;> first | (exfalso; omega) | (refine Prod.ext ?_ ?_ <;> (show _ = _) <;> omega)
theorem xk_i3 {lo q i : Nat} (h : xk lo q = (3, i)) : q = xa3 lo i ∧ i < 1 := by
  unfold xk at h
  unfold xa3
  (repeat' split at h) <;> simp only [Prod.mk.injEq] at h <;> omega
theorem xw_3 {dA : Nat → ClassId} {lo i : Nat} {σ : zS} (h : i < 1) : xw dA lo σ (xa3 lo i) = some (.inl (dA 4, 4, .inr (.inr (.inr (.inr (fun j => if j < 4 then some (xa9 lo j) else none)))))) := by
  unfold xw
  rw [xk_3 h]
  rfl
theorem xA_3 {lo i : Nat} (h : i < 1) : xA lo (xa3 lo i) := by
  unfold xA xa3
  omega
theorem xk_4 {lo i : Nat} (h : i < 1) : xk lo (xa4 lo i) = (4, i) := by
  unfold xk xa4
  (repeat' split) <;> first | (exfalso; omega) | (refine Prod.ext ?_ ?_ <;> (show _ = _) <;> omega)
theorem xk_i4 {lo q i : Nat} (h : xk lo q = (4, i)) : q = xa4 lo i ∧ i < 1 := by
  unfold xk at h
  unfold xa4
  (repeat' split at h) <;> simp only [Prod.mk.injEq] at h <;> omega
theorem xw_4 {dA : Nat → ClassId} {lo i : Nat} {σ : zS} (h : i < 1) : xw dA lo σ (xa4 lo i) = some (.inl (dA 0, 4, .inl (fun j => σ 14 i j))) := by
  unfold xw
  rw [xk_4 h]
  rfl
theorem xA_4 {lo i : Nat} (h : i < 1) : xA lo (xa4 lo i) := by
  unfold xA xa4
  omega
theorem xk_5 {lo i : Nat} (h : i < 1) : xk lo (xa5 lo i) = (5, i) := by
  unfold xk xa5
  (repeat' split) <;> first | (exfalso; omega) | (refine Prod.ext ?_ ?_ <;> (show _ = _) <;> omega)
theorem xk_i5 {lo q i : Nat} (h : xk lo q = (5, i)) : q = xa5 lo i ∧ i < 1 := by
  unfold xk at h
  unfold xa5
  (repeat' split at h) <;> simp only [Prod.mk.injEq] at h <;> omega
theorem xw_5 {dA : Nat → ClassId} {lo i : Nat} {σ : zS} (h : i < 1) : xw dA lo σ (xa5 lo i) = some (.inl (dA 0, 40, .inl (fun j => σ 15 i j))) := by
  unfold xw
  rw [xk_5 h]
  rfl
theorem xA_5 {lo i : Nat} (h : i < 1) : xA lo (xa5 lo i) := by
  unfold xA xa5
  omega
theorem xk_6 {lo i : Nat} (h : i < 10) : xk lo (xa6 lo i) = (6, i) := by
  unfold xk xa6
  (repeat' split) <;> first | (exfalso; omega) | (refine Prod.ext ?_ ?_ <;> (show _ = _) <;> omega)
theorem xk_i6 {lo q i : Nat} (h : xk lo q = (6, i)) : q = xa6 lo i ∧ i < 10 := by
  unfold xk at h
  unfold xa6
  (repeat' split at h) <;> simp only [Prod.mk.injEq] at h <;> omega
theorem xw_6 {dA : Nat → ClassId} {lo i : Nat} {σ : zS} (h : i < 10) : xw dA lo σ (xa6 lo i) = some (.inr (0, [.int (σ 0 i 0), .int (σ 1 i 0), .int (σ 2 i 0), .int (σ 3 i 0), .int (σ 4 i 0)])) := by
  unfold xw
  rw [xk_6 h]
  rfl
theorem xA_6 {lo i : Nat} (h : i < 10) : xA lo (xa6 lo i) := by
  unfold xA xa6
  omega
theorem xk_7 {lo i : Nat} (h : i < 40) : xk lo (xa7 lo i) = (7, i) := by
  unfold xk xa7
  (repeat' split) <;> first | (exfalso; omega) | (refine Prod.ext ?_ ?_ <;> (show _ = _) <;> omega)
theorem xk_i7 {lo q i : Nat} (h : xk lo q = (7, i)) : q = xa7 lo i ∧ i < 40 := by
  unfold xk at h
  unfold xa7
  (repeat' split at h) <;> simp only [Prod.mk.injEq] at h <;> omega
theorem xw_7 {dA : Nat → ClassId} {lo i : Nat} {σ : zS} (h : i < 40) : xw dA lo σ (xa7 lo i) = some (.inr (1, [.ref (xa8 lo i), .int (σ 6 i 0), .int (σ 7 i 0), .int (σ 8 i 0)])) := by
  unfold xw
  rw [xk_7 h]
  rfl
theorem xA_7 {lo i : Nat} (h : i < 40) : xA lo (xa7 lo i) := by
  unfold xA xa7
  omega
theorem xk_8 {lo i : Nat} (h : i < 40) : xk lo (xa8 lo i) = (8, i) := by
  unfold xk xa8
  (repeat' split) <;> first | (exfalso; omega) | (refine Prod.ext ?_ ?_ <;> (show _ = _) <;> omega)
theorem xk_i8 {lo q i : Nat} (h : xk lo q = (8, i)) : q = xa8 lo i ∧ i < 40 := by
  unfold xk at h
  unfold xa8
  (repeat' split at h) <;> simp only [Prod.mk.injEq] at h <;> omega
theorem xw_8 {dA : Nat → ClassId} {lo i : Nat} {σ : zS} (h : i < 40) : xw dA lo σ (xa8 lo i) = some (.inl (dA 0, 4, .inl (fun j => σ 5 i j))) := by
  unfold xw
  rw [xk_8 h]
  rfl
theorem xA_8 {lo i : Nat} (h : i < 40) : xA lo (xa8 lo i) := by
  unfold xA xa8
  omega
theorem xk_9 {lo i : Nat} (h : i < 4) : xk lo (xa9 lo i) = (9, i) := by
  unfold xk xa9
  (repeat' split) <;> first | (exfalso; omega) | (refine Prod.ext ?_ ?_ <;> (show _ = _) <;> omega)
theorem xk_i9 {lo q i : Nat} (h : xk lo q = (9, i)) : q = xa9 lo i ∧ i < 4 := by
  unfold xk at h
  unfold xa9
  (repeat' split at h) <;> simp only [Prod.mk.injEq] at h <;> omega
theorem xw_9 {dA : Nat → ClassId} {lo i : Nat} {σ : zS} (h : i < 4) : xw dA lo σ (xa9 lo i) = some (.inr (2, [.ref (xa10 lo i), .ref (xa11 lo i), .ref (xa12 lo i), .int (σ 12 i 0), .int (σ 13 i 0)])) := by
  unfold xw
  rw [xk_9 h]
  rfl
theorem xA_9 {lo i : Nat} (h : i < 4) : xA lo (xa9 lo i) := by
  unfold xA xa9
  omega
theorem xk_10 {lo i : Nat} (h : i < 4) : xk lo (xa10 lo i) = (10, i) := by
  unfold xk xa10
  (repeat' split) <;> first | (exfalso; omega) | (refine Prod.ext ?_ ?_ <;> (show _ = _) <;> omega)
theorem xk_i10 {lo q i : Nat} (h : xk lo q = (10, i)) : q = xa10 lo i ∧ i < 4 := by
  unfold xk at h
  unfold xa10
  (repeat' split at h) <;> simp only [Prod.mk.injEq] at h <;> omega
theorem xw_10 {dA : Nat → ClassId} {lo i : Nat} {σ : zS} (h : i < 4) : xw dA lo σ (xa10 lo i) = some (.inl (dA 0, 12, .inl (fun j => σ 9 i j))) := by
  unfold xw
  rw [xk_10 h]
  rfl
theorem xA_10 {lo i : Nat} (h : i < 4) : xA lo (xa10 lo i) := by
  unfold xA xa10
  omega
theorem xk_11 {lo i : Nat} (h : i < 4) : xk lo (xa11 lo i) = (11, i) := by
  unfold xk xa11
  (repeat' split) <;> first | (exfalso; omega) | (refine Prod.ext ?_ ?_ <;> (show _ = _) <;> omega)
theorem xk_i11 {lo q i : Nat} (h : xk lo q = (11, i)) : q = xa11 lo i ∧ i < 4 := by
  unfold xk at h
  unfold xa11
  (repeat' split at h) <;> simp only [Prod.mk.injEq] at h <;> omega
theorem xw_11 {dA : Nat → ClassId} {lo i : Nat} {σ : zS} (h : i < 4) : xw dA lo σ (xa11 lo i) = some (.inl (dA 0, 12, .inl (fun j => σ 10 i j))) := by
  unfold xw
  rw [xk_11 h]
  rfl
theorem xA_11 {lo i : Nat} (h : i < 4) : xA lo (xa11 lo i) := by
  unfold xA xa11
  omega
theorem xk_12 {lo i : Nat} (h : i < 4) : xk lo (xa12 lo i) = (12, i) := by
  unfold xk xa12
  (repeat' split) <;> first | (exfalso; omega) | (refine Prod.ext ?_ ?_ <;> (show _ = _) <;> omega)
theorem xk_i12 {lo q i : Nat} (h : xk lo q = (12, i)) : q = xa12 lo i ∧ i < 4 := by
  unfold xk at h
  unfold xa12
  (repeat' split at h) <;> simp only [Prod.mk.injEq] at h <;> omega
theorem xw_12 {dA : Nat → ClassId} {lo i : Nat} {σ : zS} (h : i < 4) : xw dA lo σ (xa12 lo i) = some (.inl (dA 1, 12, .inl (fun j => σ 11 i j))) := by
  unfold xw
  rw [xk_12 h]
  rfl
theorem xA_12 {lo i : Nat} (h : i < 4) : xA lo (xa12 lo i) := by
  unfold xA xa12
  omega
theorem xw_in {dA : Nat → ClassId} {lo q : Nat} {σ : zS} {e : va_E} (h : xw dA lo σ q = some e) : xA lo q := by
  unfold xw at h
  unfold xA
  by_cases hq : lo ≤ q ∧ q < lo + 112
  · exact hq
  · exfalso
    have : xk lo q = (99, 0) := by
      unfold xk
      rw [if_pos (by omega)]
    rw [this] at h
    cases h
theorem xo_16 {dA : Nat → ClassId} {lo i j κ i' : Nat} {σ : zS} {v : Int32} (h : ¬ (κ = 0 ∧ i' = i)) : xe dA lo (z_up σ 16 i j v) κ i' = xe dA lo σ κ i' := by
  unfold xe
  split <;> simp_all [z_up]
theorem xu_16 {dA : Nat → ClassId} {lo i : Nat} {σ : zS} {v : Int32} (hi : i < 1) : ∀ (q : Nat) (e : va_E), xw dA lo (z_up σ 16 i 0 v) q = some e → va_up (xw dA lo σ) (xa0 lo i) (some (.inr (3, [.ref (xa1 lo 0), .ref (xa2 lo 0), .ref (xa3 lo 0), .ref (xa4 lo 0), .ref (xa5 lo 0), .int v, .int (σ 17 i 0), .int (σ 18 i 0)]))) q = some e := by
  intro q e h
  by_cases hq : q = xa0 lo i
  · subst hq
    rw [xw_0 hi] at h
    rw [va_up_self, ← h]
    simp [z_up]
  · rw [va_up_ne _ _ hq, ← h]
    unfold xw
    rw [xo_16]
    intro hk
    exact hq (xk_i0 (Prod.ext hk.1 hk.2)).1
theorem xp_16 (C : zC p s m args meth c cc nL own D dA) {index i : Nat} {v : Int32} (hl : Cond.fieldLink own index (F_SM 5).1 (F_SM 5).2.1 (F_SM 5).2.2.1 ∈ zT) (hi : i < 1) (hna : narrow .int (.int v) = .int v) (hfit : fits .int (.int v) = true) (hd : decode cc pc = .ok (.putfield index, 3)) (k : zz p l e R s m args below meth c D (xA lo) nL Q (xw dA lo (z_up σ 16 i 0 v)) n kc ks (pc + 3) lv st) : zz p l e R s m args below meth c D (xA lo) nL Q (xw dA lo σ) n kc ks pc lv (.int v :: .ref (xa0 lo i) :: st) :=
  zz_put C (ci := 3) (N := 8) 5 rfl zi_SM t_SM t_SM_ok n_SM (by decide) hl rfl rfl hna hfit (Nat.le_of_ble_eq_true rfl) (xw_0 hi) (xA_0 hi) hd (zz_mono (xu_16 hi) k)
theorem xpN_16 (C : zC p s m args meth c cc nL own D dA) {index i : Nat} {v : Int32} {host : String} (hl : Cond.fieldLinkNest own index (F_SM 5).1 (F_SM 5).2.1 (F_SM 5).2.2.1 host ∈ zN) (hi : i < 1) (hna : narrow .int (.int v) = .int v) (hfit : fits .int (.int v) = true) (hd : decode cc pc = .ok (.putfield index, 3)) (k : zz p l e R s m args below meth c D (xA lo) nL Q (xw dA lo (z_up σ 16 i 0 v)) n kc ks (pc + 3) lv st) : zz p l e R s m args below meth c D (xA lo) nL Q (xw dA lo σ) n kc ks pc lv (.int v :: .ref (xa0 lo i) :: st) :=
  zz_putN C (ci := 3) (N := 8) 5 rfl zi_SM t_SM t_SM_ok n_SM (by decide) hl rfl rfl hna hfit (Nat.le_of_ble_eq_true rfl) (xw_0 hi) (xA_0 hi) hd (zz_mono (xu_16 hi) k)
theorem xo_17 {dA : Nat → ClassId} {lo i j κ i' : Nat} {σ : zS} {v : Int32} (h : ¬ (κ = 0 ∧ i' = i)) : xe dA lo (z_up σ 17 i j v) κ i' = xe dA lo σ κ i' := by
  unfold xe
  split <;> simp_all [z_up]
theorem xu_17 {dA : Nat → ClassId} {lo i : Nat} {σ : zS} {v : Int32} (hi : i < 1) : ∀ (q : Nat) (e : va_E), xw dA lo (z_up σ 17 i 0 v) q = some e → va_up (xw dA lo σ) (xa0 lo i) (some (.inr (3, [.ref (xa1 lo 0), .ref (xa2 lo 0), .ref (xa3 lo 0), .ref (xa4 lo 0), .ref (xa5 lo 0), .int (σ 16 i 0), .int v, .int (σ 18 i 0)]))) q = some e := by
  intro q e h
  by_cases hq : q = xa0 lo i
  · subst hq
    rw [xw_0 hi] at h
    rw [va_up_self, ← h]
    simp [z_up]
  · rw [va_up_ne _ _ hq, ← h]
    unfold xw
    rw [xo_17]
    intro hk
    exact hq (xk_i0 (Prod.ext hk.1 hk.2)).1
theorem xp_17 (C : zC p s m args meth c cc nL own D dA) {index i : Nat} {v : Int32} (hl : Cond.fieldLink own index (F_SM 6).1 (F_SM 6).2.1 (F_SM 6).2.2.1 ∈ zT) (hi : i < 1) (hna : narrow .int (.int v) = .int v) (hfit : fits .int (.int v) = true) (hd : decode cc pc = .ok (.putfield index, 3)) (k : zz p l e R s m args below meth c D (xA lo) nL Q (xw dA lo (z_up σ 17 i 0 v)) n kc ks (pc + 3) lv st) : zz p l e R s m args below meth c D (xA lo) nL Q (xw dA lo σ) n kc ks pc lv (.int v :: .ref (xa0 lo i) :: st) :=
  zz_put C (ci := 3) (N := 8) 6 rfl zi_SM t_SM t_SM_ok n_SM (by decide) hl rfl rfl hna hfit (Nat.le_of_ble_eq_true rfl) (xw_0 hi) (xA_0 hi) hd (zz_mono (xu_17 hi) k)
theorem xpN_17 (C : zC p s m args meth c cc nL own D dA) {index i : Nat} {v : Int32} {host : String} (hl : Cond.fieldLinkNest own index (F_SM 6).1 (F_SM 6).2.1 (F_SM 6).2.2.1 host ∈ zN) (hi : i < 1) (hna : narrow .int (.int v) = .int v) (hfit : fits .int (.int v) = true) (hd : decode cc pc = .ok (.putfield index, 3)) (k : zz p l e R s m args below meth c D (xA lo) nL Q (xw dA lo (z_up σ 17 i 0 v)) n kc ks (pc + 3) lv st) : zz p l e R s m args below meth c D (xA lo) nL Q (xw dA lo σ) n kc ks pc lv (.int v :: .ref (xa0 lo i) :: st) :=
  zz_putN C (ci := 3) (N := 8) 6 rfl zi_SM t_SM t_SM_ok n_SM (by decide) hl rfl rfl hna hfit (Nat.le_of_ble_eq_true rfl) (xw_0 hi) (xA_0 hi) hd (zz_mono (xu_17 hi) k)
theorem xo_18 {dA : Nat → ClassId} {lo i j κ i' : Nat} {σ : zS} {v : Int32} (h : ¬ (κ = 0 ∧ i' = i)) : xe dA lo (z_up σ 18 i j v) κ i' = xe dA lo σ κ i' := by
  unfold xe
  split <;> simp_all [z_up]
theorem xu_18 {dA : Nat → ClassId} {lo i : Nat} {σ : zS} {v : Int32} (hi : i < 1) : ∀ (q : Nat) (e : va_E), xw dA lo (z_up σ 18 i 0 v) q = some e → va_up (xw dA lo σ) (xa0 lo i) (some (.inr (3, [.ref (xa1 lo 0), .ref (xa2 lo 0), .ref (xa3 lo 0), .ref (xa4 lo 0), .ref (xa5 lo 0), .int (σ 16 i 0), .int (σ 17 i 0), .int v]))) q = some e := by
  intro q e h
  by_cases hq : q = xa0 lo i
  · subst hq
    rw [xw_0 hi] at h
    rw [va_up_self, ← h]
    simp [z_up]
  · rw [va_up_ne _ _ hq, ← h]
    unfold xw
    rw [xo_18]
    intro hk
    exact hq (xk_i0 (Prod.ext hk.1 hk.2)).1
theorem xp_18 (C : zC p s m args meth c cc nL own D dA) {index i : Nat} {v : Int32} (hl : Cond.fieldLink own index (F_SM 7).1 (F_SM 7).2.1 (F_SM 7).2.2.1 ∈ zT) (hi : i < 1) (hna : narrow .int (.int v) = .int v) (hfit : fits .int (.int v) = true) (hd : decode cc pc = .ok (.putfield index, 3)) (k : zz p l e R s m args below meth c D (xA lo) nL Q (xw dA lo (z_up σ 18 i 0 v)) n kc ks (pc + 3) lv st) : zz p l e R s m args below meth c D (xA lo) nL Q (xw dA lo σ) n kc ks pc lv (.int v :: .ref (xa0 lo i) :: st) :=
  zz_put C (ci := 3) (N := 8) 7 rfl zi_SM t_SM t_SM_ok n_SM (by decide) hl rfl rfl hna hfit (Nat.le_of_ble_eq_true rfl) (xw_0 hi) (xA_0 hi) hd (zz_mono (xu_18 hi) k)
theorem xpN_18 (C : zC p s m args meth c cc nL own D dA) {index i : Nat} {v : Int32} {host : String} (hl : Cond.fieldLinkNest own index (F_SM 7).1 (F_SM 7).2.1 (F_SM 7).2.2.1 host ∈ zN) (hi : i < 1) (hna : narrow .int (.int v) = .int v) (hfit : fits .int (.int v) = true) (hd : decode cc pc = .ok (.putfield index, 3)) (k : zz p l e R s m args below meth c D (xA lo) nL Q (xw dA lo (z_up σ 18 i 0 v)) n kc ks (pc + 3) lv st) : zz p l e R s m args below meth c D (xA lo) nL Q (xw dA lo σ) n kc ks pc lv (.int v :: .ref (xa0 lo i) :: st) :=
  zz_putN C (ci := 3) (N := 8) 7 rfl zi_SM t_SM t_SM_ok n_SM (by decide) hl rfl rfl hna hfit (Nat.le_of_ble_eq_true rfl) (xw_0 hi) (xA_0 hi) hd (zz_mono (xu_18 hi) k)
theorem xo_14 {dA : Nat → ClassId} {lo i j κ i' : Nat} {σ : zS} {v : Int32} (h : ¬ (κ = 4 ∧ i' = i)) : xe dA lo (z_up σ 14 i j v) κ i' = xe dA lo σ κ i' := by
  unfold xe
  split <;> simp_all [z_up]
theorem xu_14 {dA : Nat → ClassId} {lo i j : Nat} {σ : zS} {v : Int32} (hi : i < 1) : ∀ (q : Nat) (e : va_E), xw dA lo (z_up σ 14 i j v) q = some e → va_up (xw dA lo σ) (xa4 lo i) (some (.inl (dA 0, 4, .inl (upd (fun j => σ 14 i j) j v)))) q = some e := by
  intro q e h
  by_cases hq : q = xa4 lo i
  · subst hq
    rw [xw_4 hi] at h
    rw [va_up_self, ← h]
    refine congrArg some (congrArg Sum.inl (congrArg (Prod.mk _) (congrArg (Prod.mk _) (congrArg Sum.inl (funext fun j' => ?_)))))
    simp [z_up, upd]
  · rw [va_up_ne _ _ hq, ← h]
    unfold xw
    rw [xo_14]
    intro hk
    exact hq (xk_i4 (Prod.ext hk.1 hk.2)).1
theorem xs_14 (C : zC p s m args meth c cc nL own D dA) {i : Nat} {j v : Int32} (hi : i < 1) (hj : vp_in j 4) (hd : decode cc pc = .ok (.iastore, 1)) (k : zz p l e R s m args below meth c D (xA lo) nL Q (xw dA lo (z_up σ 14 i j.toNatClampNeg v)) n kc ks (pc + 1) lv st) : zz p l e R s m args below meth c D (xA lo) nL Q (xw dA lo σ) n kc ks pc lv (.int v :: .int j :: .ref (xa4 lo i) :: st) :=
  zz_iast C (t0 := 0) rfl (xw_4 hi) (xA_4 hi) hj hd (zz_mono (xu_14 hi) k)
theorem xo_15 {dA : Nat → ClassId} {lo i j κ i' : Nat} {σ : zS} {v : Int32} (h : ¬ (κ = 5 ∧ i' = i)) : xe dA lo (z_up σ 15 i j v) κ i' = xe dA lo σ κ i' := by
  unfold xe
  split <;> simp_all [z_up]
theorem xu_15 {dA : Nat → ClassId} {lo i j : Nat} {σ : zS} {v : Int32} (hi : i < 1) : ∀ (q : Nat) (e : va_E), xw dA lo (z_up σ 15 i j v) q = some e → va_up (xw dA lo σ) (xa5 lo i) (some (.inl (dA 0, 40, .inl (upd (fun j => σ 15 i j) j v)))) q = some e := by
  intro q e h
  by_cases hq : q = xa5 lo i
  · subst hq
    rw [xw_5 hi] at h
    rw [va_up_self, ← h]
    refine congrArg some (congrArg Sum.inl (congrArg (Prod.mk _) (congrArg (Prod.mk _) (congrArg Sum.inl (funext fun j' => ?_)))))
    simp [z_up, upd]
  · rw [va_up_ne _ _ hq, ← h]
    unfold xw
    rw [xo_15]
    intro hk
    exact hq (xk_i5 (Prod.ext hk.1 hk.2)).1
theorem xs_15 (C : zC p s m args meth c cc nL own D dA) {i : Nat} {j v : Int32} (hi : i < 1) (hj : vp_in j 40) (hd : decode cc pc = .ok (.iastore, 1)) (k : zz p l e R s m args below meth c D (xA lo) nL Q (xw dA lo (z_up σ 15 i j.toNatClampNeg v)) n kc ks (pc + 1) lv st) : zz p l e R s m args below meth c D (xA lo) nL Q (xw dA lo σ) n kc ks pc lv (.int v :: .int j :: .ref (xa5 lo i) :: st) :=
  zz_iast C (t0 := 0) rfl (xw_5 hi) (xA_5 hi) hj hd (zz_mono (xu_15 hi) k)
theorem xo_0 {dA : Nat → ClassId} {lo i j κ i' : Nat} {σ : zS} {v : Int32} (h : ¬ (κ = 6 ∧ i' = i)) : xe dA lo (z_up σ 0 i j v) κ i' = xe dA lo σ κ i' := by
  unfold xe
  split <;> simp_all [z_up]
theorem xu_0 {dA : Nat → ClassId} {lo i : Nat} {σ : zS} {v : Int32} (hi : i < 10) : ∀ (q : Nat) (e : va_E), xw dA lo (z_up σ 0 i 0 v) q = some e → va_up (xw dA lo σ) (xa6 lo i) (some (.inr (0, [.int v, .int (σ 1 i 0), .int (σ 2 i 0), .int (σ 3 i 0), .int (σ 4 i 0)]))) q = some e := by
  intro q e h
  by_cases hq : q = xa6 lo i
  · subst hq
    rw [xw_6 hi] at h
    rw [va_up_self, ← h]
    simp [z_up]
  · rw [va_up_ne _ _ hq, ← h]
    unfold xw
    rw [xo_0]
    intro hk
    exact hq (xk_i6 (Prod.ext hk.1 hk.2)).1
theorem xp_0 (C : zC p s m args meth c cc nL own D dA) {index i : Nat} {v : Int32} (hl : Cond.fieldLink own index (F_Ar 0).1 (F_Ar 0).2.1 (F_Ar 0).2.2.1 ∈ zT) (hi : i < 10) (hna : narrow .int (.int v) = .int v) (hfit : fits .int (.int v) = true) (hd : decode cc pc = .ok (.putfield index, 3)) (k : zz p l e R s m args below meth c D (xA lo) nL Q (xw dA lo (z_up σ 0 i 0 v)) n kc ks (pc + 3) lv st) : zz p l e R s m args below meth c D (xA lo) nL Q (xw dA lo σ) n kc ks pc lv (.int v :: .ref (xa6 lo i) :: st) :=
  zz_put C (ci := 0) (N := 5) 0 rfl zi_Ar t_Ar t_Ar_ok n_Ar (by decide) hl rfl rfl hna hfit (Nat.le_of_ble_eq_true rfl) (xw_6 hi) (xA_6 hi) hd (zz_mono (xu_0 hi) k)
theorem xpN_0 (C : zC p s m args meth c cc nL own D dA) {index i : Nat} {v : Int32} {host : String} (hl : Cond.fieldLinkNest own index (F_Ar 0).1 (F_Ar 0).2.1 (F_Ar 0).2.2.1 host ∈ zN) (hi : i < 10) (hna : narrow .int (.int v) = .int v) (hfit : fits .int (.int v) = true) (hd : decode cc pc = .ok (.putfield index, 3)) (k : zz p l e R s m args below meth c D (xA lo) nL Q (xw dA lo (z_up σ 0 i 0 v)) n kc ks (pc + 3) lv st) : zz p l e R s m args below meth c D (xA lo) nL Q (xw dA lo σ) n kc ks pc lv (.int v :: .ref (xa6 lo i) :: st) :=
  zz_putN C (ci := 0) (N := 5) 0 rfl zi_Ar t_Ar t_Ar_ok n_Ar (by decide) hl rfl rfl hna hfit (Nat.le_of_ble_eq_true rfl) (xw_6 hi) (xA_6 hi) hd (zz_mono (xu_0 hi) k)
theorem xo_1 {dA : Nat → ClassId} {lo i j κ i' : Nat} {σ : zS} {v : Int32} (h : ¬ (κ = 6 ∧ i' = i)) : xe dA lo (z_up σ 1 i j v) κ i' = xe dA lo σ κ i' := by
  unfold xe
  split <;> simp_all [z_up]
theorem xu_1 {dA : Nat → ClassId} {lo i : Nat} {σ : zS} {v : Int32} (hi : i < 10) : ∀ (q : Nat) (e : va_E), xw dA lo (z_up σ 1 i 0 v) q = some e → va_up (xw dA lo σ) (xa6 lo i) (some (.inr (0, [.int (σ 0 i 0), .int v, .int (σ 2 i 0), .int (σ 3 i 0), .int (σ 4 i 0)]))) q = some e := by
  intro q e h
  by_cases hq : q = xa6 lo i
  · subst hq
    rw [xw_6 hi] at h
    rw [va_up_self, ← h]
    simp [z_up]
  · rw [va_up_ne _ _ hq, ← h]
    unfold xw
    rw [xo_1]
    intro hk
    exact hq (xk_i6 (Prod.ext hk.1 hk.2)).1
theorem xp_1 (C : zC p s m args meth c cc nL own D dA) {index i : Nat} {v : Int32} (hl : Cond.fieldLink own index (F_Ar 1).1 (F_Ar 1).2.1 (F_Ar 1).2.2.1 ∈ zT) (hi : i < 10) (hna : narrow .int (.int v) = .int v) (hfit : fits .int (.int v) = true) (hd : decode cc pc = .ok (.putfield index, 3)) (k : zz p l e R s m args below meth c D (xA lo) nL Q (xw dA lo (z_up σ 1 i 0 v)) n kc ks (pc + 3) lv st) : zz p l e R s m args below meth c D (xA lo) nL Q (xw dA lo σ) n kc ks pc lv (.int v :: .ref (xa6 lo i) :: st) :=
  zz_put C (ci := 0) (N := 5) 1 rfl zi_Ar t_Ar t_Ar_ok n_Ar (by decide) hl rfl rfl hna hfit (Nat.le_of_ble_eq_true rfl) (xw_6 hi) (xA_6 hi) hd (zz_mono (xu_1 hi) k)
theorem xpN_1 (C : zC p s m args meth c cc nL own D dA) {index i : Nat} {v : Int32} {host : String} (hl : Cond.fieldLinkNest own index (F_Ar 1).1 (F_Ar 1).2.1 (F_Ar 1).2.2.1 host ∈ zN) (hi : i < 10) (hna : narrow .int (.int v) = .int v) (hfit : fits .int (.int v) = true) (hd : decode cc pc = .ok (.putfield index, 3)) (k : zz p l e R s m args below meth c D (xA lo) nL Q (xw dA lo (z_up σ 1 i 0 v)) n kc ks (pc + 3) lv st) : zz p l e R s m args below meth c D (xA lo) nL Q (xw dA lo σ) n kc ks pc lv (.int v :: .ref (xa6 lo i) :: st) :=
  zz_putN C (ci := 0) (N := 5) 1 rfl zi_Ar t_Ar t_Ar_ok n_Ar (by decide) hl rfl rfl hna hfit (Nat.le_of_ble_eq_true rfl) (xw_6 hi) (xA_6 hi) hd (zz_mono (xu_1 hi) k)
theorem xo_2 {dA : Nat → ClassId} {lo i j κ i' : Nat} {σ : zS} {v : Int32} (h : ¬ (κ = 6 ∧ i' = i)) : xe dA lo (z_up σ 2 i j v) κ i' = xe dA lo σ κ i' := by
  unfold xe
  split <;> simp_all [z_up]
theorem xu_2 {dA : Nat → ClassId} {lo i : Nat} {σ : zS} {v : Int32} (hi : i < 10) : ∀ (q : Nat) (e : va_E), xw dA lo (z_up σ 2 i 0 v) q = some e → va_up (xw dA lo σ) (xa6 lo i) (some (.inr (0, [.int (σ 0 i 0), .int (σ 1 i 0), .int v, .int (σ 3 i 0), .int (σ 4 i 0)]))) q = some e := by
  intro q e h
  by_cases hq : q = xa6 lo i
  · subst hq
    rw [xw_6 hi] at h
    rw [va_up_self, ← h]
    simp [z_up]
  · rw [va_up_ne _ _ hq, ← h]
    unfold xw
    rw [xo_2]
    intro hk
    exact hq (xk_i6 (Prod.ext hk.1 hk.2)).1
theorem xp_2 (C : zC p s m args meth c cc nL own D dA) {index i : Nat} {v : Int32} (hl : Cond.fieldLink own index (F_Ar 2).1 (F_Ar 2).2.1 (F_Ar 2).2.2.1 ∈ zT) (hi : i < 10) (hna : narrow .int (.int v) = .int v) (hfit : fits .int (.int v) = true) (hd : decode cc pc = .ok (.putfield index, 3)) (k : zz p l e R s m args below meth c D (xA lo) nL Q (xw dA lo (z_up σ 2 i 0 v)) n kc ks (pc + 3) lv st) : zz p l e R s m args below meth c D (xA lo) nL Q (xw dA lo σ) n kc ks pc lv (.int v :: .ref (xa6 lo i) :: st) :=
  zz_put C (ci := 0) (N := 5) 2 rfl zi_Ar t_Ar t_Ar_ok n_Ar (by decide) hl rfl rfl hna hfit (Nat.le_of_ble_eq_true rfl) (xw_6 hi) (xA_6 hi) hd (zz_mono (xu_2 hi) k)
theorem xpN_2 (C : zC p s m args meth c cc nL own D dA) {index i : Nat} {v : Int32} {host : String} (hl : Cond.fieldLinkNest own index (F_Ar 2).1 (F_Ar 2).2.1 (F_Ar 2).2.2.1 host ∈ zN) (hi : i < 10) (hna : narrow .int (.int v) = .int v) (hfit : fits .int (.int v) = true) (hd : decode cc pc = .ok (.putfield index, 3)) (k : zz p l e R s m args below meth c D (xA lo) nL Q (xw dA lo (z_up σ 2 i 0 v)) n kc ks (pc + 3) lv st) : zz p l e R s m args below meth c D (xA lo) nL Q (xw dA lo σ) n kc ks pc lv (.int v :: .ref (xa6 lo i) :: st) :=
  zz_putN C (ci := 0) (N := 5) 2 rfl zi_Ar t_Ar t_Ar_ok n_Ar (by decide) hl rfl rfl hna hfit (Nat.le_of_ble_eq_true rfl) (xw_6 hi) (xA_6 hi) hd (zz_mono (xu_2 hi) k)
theorem xo_3 {dA : Nat → ClassId} {lo i j κ i' : Nat} {σ : zS} {v : Int32} (h : ¬ (κ = 6 ∧ i' = i)) : xe dA lo (z_up σ 3 i j v) κ i' = xe dA lo σ κ i' := by
  unfold xe
  split <;> simp_all [z_up]
theorem xu_3 {dA : Nat → ClassId} {lo i : Nat} {σ : zS} {v : Int32} (hi : i < 10) : ∀ (q : Nat) (e : va_E), xw dA lo (z_up σ 3 i 0 v) q = some e → va_up (xw dA lo σ) (xa6 lo i) (some (.inr (0, [.int (σ 0 i 0), .int (σ 1 i 0), .int (σ 2 i 0), .int v, .int (σ 4 i 0)]))) q = some e := by
  intro q e h
  by_cases hq : q = xa6 lo i
  · subst hq
    rw [xw_6 hi] at h
    rw [va_up_self, ← h]
    simp [z_up]
  · rw [va_up_ne _ _ hq, ← h]
    unfold xw
    rw [xo_3]
    intro hk
    exact hq (xk_i6 (Prod.ext hk.1 hk.2)).1
theorem xp_3 (C : zC p s m args meth c cc nL own D dA) {index i : Nat} {v : Int32} (hl : Cond.fieldLink own index (F_Ar 3).1 (F_Ar 3).2.1 (F_Ar 3).2.2.1 ∈ zT) (hi : i < 10) (hna : narrow .int (.int v) = .int v) (hfit : fits .int (.int v) = true) (hd : decode cc pc = .ok (.putfield index, 3)) (k : zz p l e R s m args below meth c D (xA lo) nL Q (xw dA lo (z_up σ 3 i 0 v)) n kc ks (pc + 3) lv st) : zz p l e R s m args below meth c D (xA lo) nL Q (xw dA lo σ) n kc ks pc lv (.int v :: .ref (xa6 lo i) :: st) :=
  zz_put C (ci := 0) (N := 5) 3 rfl zi_Ar t_Ar t_Ar_ok n_Ar (by decide) hl rfl rfl hna hfit (Nat.le_of_ble_eq_true rfl) (xw_6 hi) (xA_6 hi) hd (zz_mono (xu_3 hi) k)
theorem xpN_3 (C : zC p s m args meth c cc nL own D dA) {index i : Nat} {v : Int32} {host : String} (hl : Cond.fieldLinkNest own index (F_Ar 3).1 (F_Ar 3).2.1 (F_Ar 3).2.2.1 host ∈ zN) (hi : i < 10) (hna : narrow .int (.int v) = .int v) (hfit : fits .int (.int v) = true) (hd : decode cc pc = .ok (.putfield index, 3)) (k : zz p l e R s m args below meth c D (xA lo) nL Q (xw dA lo (z_up σ 3 i 0 v)) n kc ks (pc + 3) lv st) : zz p l e R s m args below meth c D (xA lo) nL Q (xw dA lo σ) n kc ks pc lv (.int v :: .ref (xa6 lo i) :: st) :=
  zz_putN C (ci := 0) (N := 5) 3 rfl zi_Ar t_Ar t_Ar_ok n_Ar (by decide) hl rfl rfl hna hfit (Nat.le_of_ble_eq_true rfl) (xw_6 hi) (xA_6 hi) hd (zz_mono (xu_3 hi) k)
theorem xo_4 {dA : Nat → ClassId} {lo i j κ i' : Nat} {σ : zS} {v : Int32} (h : ¬ (κ = 6 ∧ i' = i)) : xe dA lo (z_up σ 4 i j v) κ i' = xe dA lo σ κ i' := by
  unfold xe
  split <;> simp_all [z_up]
theorem xu_4 {dA : Nat → ClassId} {lo i : Nat} {σ : zS} {v : Int32} (hi : i < 10) : ∀ (q : Nat) (e : va_E), xw dA lo (z_up σ 4 i 0 v) q = some e → va_up (xw dA lo σ) (xa6 lo i) (some (.inr (0, [.int (σ 0 i 0), .int (σ 1 i 0), .int (σ 2 i 0), .int (σ 3 i 0), .int v]))) q = some e := by
  intro q e h
  by_cases hq : q = xa6 lo i
  · subst hq
    rw [xw_6 hi] at h
    rw [va_up_self, ← h]
    simp [z_up]
  · rw [va_up_ne _ _ hq, ← h]
    unfold xw
    rw [xo_4]
    intro hk
    exact hq (xk_i6 (Prod.ext hk.1 hk.2)).1
theorem xp_4 (C : zC p s m args meth c cc nL own D dA) {index i : Nat} {v : Int32} (hl : Cond.fieldLink own index (F_Ar 4).1 (F_Ar 4).2.1 (F_Ar 4).2.2.1 ∈ zT) (hi : i < 10) (hna : narrow .int (.int v) = .int v) (hfit : fits .int (.int v) = true) (hd : decode cc pc = .ok (.putfield index, 3)) (k : zz p l e R s m args below meth c D (xA lo) nL Q (xw dA lo (z_up σ 4 i 0 v)) n kc ks (pc + 3) lv st) : zz p l e R s m args below meth c D (xA lo) nL Q (xw dA lo σ) n kc ks pc lv (.int v :: .ref (xa6 lo i) :: st) :=
  zz_put C (ci := 0) (N := 5) 4 rfl zi_Ar t_Ar t_Ar_ok n_Ar (by decide) hl rfl rfl hna hfit (Nat.le_of_ble_eq_true rfl) (xw_6 hi) (xA_6 hi) hd (zz_mono (xu_4 hi) k)
theorem xpN_4 (C : zC p s m args meth c cc nL own D dA) {index i : Nat} {v : Int32} {host : String} (hl : Cond.fieldLinkNest own index (F_Ar 4).1 (F_Ar 4).2.1 (F_Ar 4).2.2.1 host ∈ zN) (hi : i < 10) (hna : narrow .int (.int v) = .int v) (hfit : fits .int (.int v) = true) (hd : decode cc pc = .ok (.putfield index, 3)) (k : zz p l e R s m args below meth c D (xA lo) nL Q (xw dA lo (z_up σ 4 i 0 v)) n kc ks (pc + 3) lv st) : zz p l e R s m args below meth c D (xA lo) nL Q (xw dA lo σ) n kc ks pc lv (.int v :: .ref (xa6 lo i) :: st) :=
  zz_putN C (ci := 0) (N := 5) 4 rfl zi_Ar t_Ar t_Ar_ok n_Ar (by decide) hl rfl rfl hna hfit (Nat.le_of_ble_eq_true rfl) (xw_6 hi) (xA_6 hi) hd (zz_mono (xu_4 hi) k)
theorem xo_6 {dA : Nat → ClassId} {lo i j κ i' : Nat} {σ : zS} {v : Int32} (h : ¬ (κ = 7 ∧ i' = i)) : xe dA lo (z_up σ 6 i j v) κ i' = xe dA lo σ κ i' := by
  unfold xe
  split <;> simp_all [z_up]
theorem xu_6 {dA : Nat → ClassId} {lo i : Nat} {σ : zS} {v : Int32} (hi : i < 40) : ∀ (q : Nat) (e : va_E), xw dA lo (z_up σ 6 i 0 v) q = some e → va_up (xw dA lo σ) (xa7 lo i) (some (.inr (1, [.ref (xa8 lo i), .int v, .int (σ 7 i 0), .int (σ 8 i 0)]))) q = some e := by
  intro q e h
  by_cases hq : q = xa7 lo i
  · subst hq
    rw [xw_7 hi] at h
    rw [va_up_self, ← h]
    simp [z_up]
  · rw [va_up_ne _ _ hq, ← h]
    unfold xw
    rw [xo_6]
    intro hk
    exact hq (xk_i7 (Prod.ext hk.1 hk.2)).1
theorem xp_6 (C : zC p s m args meth c cc nL own D dA) {index i : Nat} {v : Int32} (hl : Cond.fieldLink own index (F_Ce 1).1 (F_Ce 1).2.1 (F_Ce 1).2.2.1 ∈ zT) (hi : i < 40) (hna : narrow .int (.int v) = .int v) (hfit : fits .int (.int v) = true) (hd : decode cc pc = .ok (.putfield index, 3)) (k : zz p l e R s m args below meth c D (xA lo) nL Q (xw dA lo (z_up σ 6 i 0 v)) n kc ks (pc + 3) lv st) : zz p l e R s m args below meth c D (xA lo) nL Q (xw dA lo σ) n kc ks pc lv (.int v :: .ref (xa7 lo i) :: st) :=
  zz_put C (ci := 1) (N := 4) 1 rfl zi_Ce t_Ce t_Ce_ok n_Ce (by decide) hl rfl rfl hna hfit (Nat.le_of_ble_eq_true rfl) (xw_7 hi) (xA_7 hi) hd (zz_mono (xu_6 hi) k)
theorem xpN_6 (C : zC p s m args meth c cc nL own D dA) {index i : Nat} {v : Int32} {host : String} (hl : Cond.fieldLinkNest own index (F_Ce 1).1 (F_Ce 1).2.1 (F_Ce 1).2.2.1 host ∈ zN) (hi : i < 40) (hna : narrow .int (.int v) = .int v) (hfit : fits .int (.int v) = true) (hd : decode cc pc = .ok (.putfield index, 3)) (k : zz p l e R s m args below meth c D (xA lo) nL Q (xw dA lo (z_up σ 6 i 0 v)) n kc ks (pc + 3) lv st) : zz p l e R s m args below meth c D (xA lo) nL Q (xw dA lo σ) n kc ks pc lv (.int v :: .ref (xa7 lo i) :: st) :=
  zz_putN C (ci := 1) (N := 4) 1 rfl zi_Ce t_Ce t_Ce_ok n_Ce (by decide) hl rfl rfl hna hfit (Nat.le_of_ble_eq_true rfl) (xw_7 hi) (xA_7 hi) hd (zz_mono (xu_6 hi) k)
theorem xo_7 {dA : Nat → ClassId} {lo i j κ i' : Nat} {σ : zS} {v : Int32} (h : ¬ (κ = 7 ∧ i' = i)) : xe dA lo (z_up σ 7 i j v) κ i' = xe dA lo σ κ i' := by
  unfold xe
  split <;> simp_all [z_up]
theorem xu_7 {dA : Nat → ClassId} {lo i : Nat} {σ : zS} {v : Int32} (hi : i < 40) : ∀ (q : Nat) (e : va_E), xw dA lo (z_up σ 7 i 0 v) q = some e → va_up (xw dA lo σ) (xa7 lo i) (some (.inr (1, [.ref (xa8 lo i), .int (σ 6 i 0), .int v, .int (σ 8 i 0)]))) q = some e := by
  intro q e h
  by_cases hq : q = xa7 lo i
  · subst hq
    rw [xw_7 hi] at h
    rw [va_up_self, ← h]
    simp [z_up]
  · rw [va_up_ne _ _ hq, ← h]
    unfold xw
    rw [xo_7]
    intro hk
    exact hq (xk_i7 (Prod.ext hk.1 hk.2)).1
theorem xp_7 (C : zC p s m args meth c cc nL own D dA) {index i : Nat} {v : Int32} (hl : Cond.fieldLink own index (F_Ce 2).1 (F_Ce 2).2.1 (F_Ce 2).2.2.1 ∈ zT) (hi : i < 40) (hna : narrow .int (.int v) = .int v) (hfit : fits .int (.int v) = true) (hd : decode cc pc = .ok (.putfield index, 3)) (k : zz p l e R s m args below meth c D (xA lo) nL Q (xw dA lo (z_up σ 7 i 0 v)) n kc ks (pc + 3) lv st) : zz p l e R s m args below meth c D (xA lo) nL Q (xw dA lo σ) n kc ks pc lv (.int v :: .ref (xa7 lo i) :: st) :=
  zz_put C (ci := 1) (N := 4) 2 rfl zi_Ce t_Ce t_Ce_ok n_Ce (by decide) hl rfl rfl hna hfit (Nat.le_of_ble_eq_true rfl) (xw_7 hi) (xA_7 hi) hd (zz_mono (xu_7 hi) k)
theorem xpN_7 (C : zC p s m args meth c cc nL own D dA) {index i : Nat} {v : Int32} {host : String} (hl : Cond.fieldLinkNest own index (F_Ce 2).1 (F_Ce 2).2.1 (F_Ce 2).2.2.1 host ∈ zN) (hi : i < 40) (hna : narrow .int (.int v) = .int v) (hfit : fits .int (.int v) = true) (hd : decode cc pc = .ok (.putfield index, 3)) (k : zz p l e R s m args below meth c D (xA lo) nL Q (xw dA lo (z_up σ 7 i 0 v)) n kc ks (pc + 3) lv st) : zz p l e R s m args below meth c D (xA lo) nL Q (xw dA lo σ) n kc ks pc lv (.int v :: .ref (xa7 lo i) :: st) :=
  zz_putN C (ci := 1) (N := 4) 2 rfl zi_Ce t_Ce t_Ce_ok n_Ce (by decide) hl rfl rfl hna hfit (Nat.le_of_ble_eq_true rfl) (xw_7 hi) (xA_7 hi) hd (zz_mono (xu_7 hi) k)
theorem xo_8 {dA : Nat → ClassId} {lo i j κ i' : Nat} {σ : zS} {v : Int32} (h : ¬ (κ = 7 ∧ i' = i)) : xe dA lo (z_up σ 8 i j v) κ i' = xe dA lo σ κ i' := by
  unfold xe
  split <;> simp_all [z_up]
theorem xu_8 {dA : Nat → ClassId} {lo i : Nat} {σ : zS} {v : Int32} (hi : i < 40) : ∀ (q : Nat) (e : va_E), xw dA lo (z_up σ 8 i 0 v) q = some e → va_up (xw dA lo σ) (xa7 lo i) (some (.inr (1, [.ref (xa8 lo i), .int (σ 6 i 0), .int (σ 7 i 0), .int v]))) q = some e := by
  intro q e h
  by_cases hq : q = xa7 lo i
  · subst hq
    rw [xw_7 hi] at h
    rw [va_up_self, ← h]
    simp [z_up]
  · rw [va_up_ne _ _ hq, ← h]
    unfold xw
    rw [xo_8]
    intro hk
    exact hq (xk_i7 (Prod.ext hk.1 hk.2)).1
theorem xp_8 (C : zC p s m args meth c cc nL own D dA) {index i : Nat} {v : Int32} (hl : Cond.fieldLink own index (F_Ce 3).1 (F_Ce 3).2.1 (F_Ce 3).2.2.1 ∈ zT) (hi : i < 40) (hna : narrow .boolean (.int v) = .int v) (hfit : fits .boolean (.int v) = true) (hd : decode cc pc = .ok (.putfield index, 3)) (k : zz p l e R s m args below meth c D (xA lo) nL Q (xw dA lo (z_up σ 8 i 0 v)) n kc ks (pc + 3) lv st) : zz p l e R s m args below meth c D (xA lo) nL Q (xw dA lo σ) n kc ks pc lv (.int v :: .ref (xa7 lo i) :: st) :=
  zz_put C (ci := 1) (N := 4) 3 rfl zi_Ce t_Ce t_Ce_ok n_Ce (by decide) hl rfl rfl hna hfit (Nat.le_of_ble_eq_true rfl) (xw_7 hi) (xA_7 hi) hd (zz_mono (xu_8 hi) k)
theorem xpN_8 (C : zC p s m args meth c cc nL own D dA) {index i : Nat} {v : Int32} {host : String} (hl : Cond.fieldLinkNest own index (F_Ce 3).1 (F_Ce 3).2.1 (F_Ce 3).2.2.1 host ∈ zN) (hi : i < 40) (hna : narrow .boolean (.int v) = .int v) (hfit : fits .boolean (.int v) = true) (hd : decode cc pc = .ok (.putfield index, 3)) (k : zz p l e R s m args below meth c D (xA lo) nL Q (xw dA lo (z_up σ 8 i 0 v)) n kc ks (pc + 3) lv st) : zz p l e R s m args below meth c D (xA lo) nL Q (xw dA lo σ) n kc ks pc lv (.int v :: .ref (xa7 lo i) :: st) :=
  zz_putN C (ci := 1) (N := 4) 3 rfl zi_Ce t_Ce t_Ce_ok n_Ce (by decide) hl rfl rfl hna hfit (Nat.le_of_ble_eq_true rfl) (xw_7 hi) (xA_7 hi) hd (zz_mono (xu_8 hi) k)
theorem xo_5 {dA : Nat → ClassId} {lo i j κ i' : Nat} {σ : zS} {v : Int32} (h : ¬ (κ = 8 ∧ i' = i)) : xe dA lo (z_up σ 5 i j v) κ i' = xe dA lo σ κ i' := by
  unfold xe
  split <;> simp_all [z_up]
theorem xu_5 {dA : Nat → ClassId} {lo i j : Nat} {σ : zS} {v : Int32} (hi : i < 40) : ∀ (q : Nat) (e : va_E), xw dA lo (z_up σ 5 i j v) q = some e → va_up (xw dA lo σ) (xa8 lo i) (some (.inl (dA 0, 4, .inl (upd (fun j => σ 5 i j) j v)))) q = some e := by
  intro q e h
  by_cases hq : q = xa8 lo i
  · subst hq
    rw [xw_8 hi] at h
    rw [va_up_self, ← h]
    refine congrArg some (congrArg Sum.inl (congrArg (Prod.mk _) (congrArg (Prod.mk _) (congrArg Sum.inl (funext fun j' => ?_)))))
    simp [z_up, upd]
  · rw [va_up_ne _ _ hq, ← h]
    unfold xw
    rw [xo_5]
    intro hk
    exact hq (xk_i8 (Prod.ext hk.1 hk.2)).1
theorem xs_5 (C : zC p s m args meth c cc nL own D dA) {i : Nat} {j v : Int32} (hi : i < 40) (hj : vp_in j 4) (hd : decode cc pc = .ok (.iastore, 1)) (k : zz p l e R s m args below meth c D (xA lo) nL Q (xw dA lo (z_up σ 5 i j.toNatClampNeg v)) n kc ks (pc + 1) lv st) : zz p l e R s m args below meth c D (xA lo) nL Q (xw dA lo σ) n kc ks pc lv (.int v :: .int j :: .ref (xa8 lo i) :: st) :=
  zz_iast C (t0 := 0) rfl (xw_8 hi) (xA_8 hi) hj hd (zz_mono (xu_5 hi) k)
theorem xo_12 {dA : Nat → ClassId} {lo i j κ i' : Nat} {σ : zS} {v : Int32} (h : ¬ (κ = 9 ∧ i' = i)) : xe dA lo (z_up σ 12 i j v) κ i' = xe dA lo σ κ i' := by
  unfold xe
  split <;> simp_all [z_up]
theorem xu_12 {dA : Nat → ClassId} {lo i : Nat} {σ : zS} {v : Int32} (hi : i < 4) : ∀ (q : Nat) (e : va_E), xw dA lo (z_up σ 12 i 0 v) q = some e → va_up (xw dA lo σ) (xa9 lo i) (some (.inr (2, [.ref (xa10 lo i), .ref (xa11 lo i), .ref (xa12 lo i), .int v, .int (σ 13 i 0)]))) q = some e := by
  intro q e h
  by_cases hq : q = xa9 lo i
  · subst hq
    rw [xw_9 hi] at h
    rw [va_up_self, ← h]
    simp [z_up]
  · rw [va_up_ne _ _ hq, ← h]
    unfold xw
    rw [xo_12]
    intro hk
    exact hq (xk_i9 (Prod.ext hk.1 hk.2)).1
theorem xp_12 (C : zC p s m args meth c cc nL own D dA) {index i : Nat} {v : Int32} (hl : Cond.fieldLink own index (F_Ro 3).1 (F_Ro 3).2.1 (F_Ro 3).2.2.1 ∈ zT) (hi : i < 4) (hna : narrow .int (.int v) = .int v) (hfit : fits .int (.int v) = true) (hd : decode cc pc = .ok (.putfield index, 3)) (k : zz p l e R s m args below meth c D (xA lo) nL Q (xw dA lo (z_up σ 12 i 0 v)) n kc ks (pc + 3) lv st) : zz p l e R s m args below meth c D (xA lo) nL Q (xw dA lo σ) n kc ks pc lv (.int v :: .ref (xa9 lo i) :: st) :=
  zz_put C (ci := 2) (N := 5) 3 rfl zi_Ro t_Ro t_Ro_ok n_Ro (by decide) hl rfl rfl hna hfit (Nat.le_of_ble_eq_true rfl) (xw_9 hi) (xA_9 hi) hd (zz_mono (xu_12 hi) k)
theorem xpN_12 (C : zC p s m args meth c cc nL own D dA) {index i : Nat} {v : Int32} {host : String} (hl : Cond.fieldLinkNest own index (F_Ro 3).1 (F_Ro 3).2.1 (F_Ro 3).2.2.1 host ∈ zN) (hi : i < 4) (hna : narrow .int (.int v) = .int v) (hfit : fits .int (.int v) = true) (hd : decode cc pc = .ok (.putfield index, 3)) (k : zz p l e R s m args below meth c D (xA lo) nL Q (xw dA lo (z_up σ 12 i 0 v)) n kc ks (pc + 3) lv st) : zz p l e R s m args below meth c D (xA lo) nL Q (xw dA lo σ) n kc ks pc lv (.int v :: .ref (xa9 lo i) :: st) :=
  zz_putN C (ci := 2) (N := 5) 3 rfl zi_Ro t_Ro t_Ro_ok n_Ro (by decide) hl rfl rfl hna hfit (Nat.le_of_ble_eq_true rfl) (xw_9 hi) (xA_9 hi) hd (zz_mono (xu_12 hi) k)
theorem xo_13 {dA : Nat → ClassId} {lo i j κ i' : Nat} {σ : zS} {v : Int32} (h : ¬ (κ = 9 ∧ i' = i)) : xe dA lo (z_up σ 13 i j v) κ i' = xe dA lo σ κ i' := by
  unfold xe
  split <;> simp_all [z_up]
theorem xu_13 {dA : Nat → ClassId} {lo i : Nat} {σ : zS} {v : Int32} (hi : i < 4) : ∀ (q : Nat) (e : va_E), xw dA lo (z_up σ 13 i 0 v) q = some e → va_up (xw dA lo σ) (xa9 lo i) (some (.inr (2, [.ref (xa10 lo i), .ref (xa11 lo i), .ref (xa12 lo i), .int (σ 12 i 0), .int v]))) q = some e := by
  intro q e h
  by_cases hq : q = xa9 lo i
  · subst hq
    rw [xw_9 hi] at h
    rw [va_up_self, ← h]
    simp [z_up]
  · rw [va_up_ne _ _ hq, ← h]
    unfold xw
    rw [xo_13]
    intro hk
    exact hq (xk_i9 (Prod.ext hk.1 hk.2)).1
theorem xp_13 (C : zC p s m args meth c cc nL own D dA) {index i : Nat} {v : Int32} (hl : Cond.fieldLink own index (F_Ro 4).1 (F_Ro 4).2.1 (F_Ro 4).2.2.1 ∈ zT) (hi : i < 4) (hna : narrow .boolean (.int v) = .int v) (hfit : fits .boolean (.int v) = true) (hd : decode cc pc = .ok (.putfield index, 3)) (k : zz p l e R s m args below meth c D (xA lo) nL Q (xw dA lo (z_up σ 13 i 0 v)) n kc ks (pc + 3) lv st) : zz p l e R s m args below meth c D (xA lo) nL Q (xw dA lo σ) n kc ks pc lv (.int v :: .ref (xa9 lo i) :: st) :=
  zz_put C (ci := 2) (N := 5) 4 rfl zi_Ro t_Ro t_Ro_ok n_Ro (by decide) hl rfl rfl hna hfit (Nat.le_of_ble_eq_true rfl) (xw_9 hi) (xA_9 hi) hd (zz_mono (xu_13 hi) k)
theorem xpN_13 (C : zC p s m args meth c cc nL own D dA) {index i : Nat} {v : Int32} {host : String} (hl : Cond.fieldLinkNest own index (F_Ro 4).1 (F_Ro 4).2.1 (F_Ro 4).2.2.1 host ∈ zN) (hi : i < 4) (hna : narrow .boolean (.int v) = .int v) (hfit : fits .boolean (.int v) = true) (hd : decode cc pc = .ok (.putfield index, 3)) (k : zz p l e R s m args below meth c D (xA lo) nL Q (xw dA lo (z_up σ 13 i 0 v)) n kc ks (pc + 3) lv st) : zz p l e R s m args below meth c D (xA lo) nL Q (xw dA lo σ) n kc ks pc lv (.int v :: .ref (xa9 lo i) :: st) :=
  zz_putN C (ci := 2) (N := 5) 4 rfl zi_Ro t_Ro t_Ro_ok n_Ro (by decide) hl rfl rfl hna hfit (Nat.le_of_ble_eq_true rfl) (xw_9 hi) (xA_9 hi) hd (zz_mono (xu_13 hi) k)
theorem xo_9 {dA : Nat → ClassId} {lo i j κ i' : Nat} {σ : zS} {v : Int32} (h : ¬ (κ = 10 ∧ i' = i)) : xe dA lo (z_up σ 9 i j v) κ i' = xe dA lo σ κ i' := by
  unfold xe
  split <;> simp_all [z_up]
theorem xu_9 {dA : Nat → ClassId} {lo i j : Nat} {σ : zS} {v : Int32} (hi : i < 4) : ∀ (q : Nat) (e : va_E), xw dA lo (z_up σ 9 i j v) q = some e → va_up (xw dA lo σ) (xa10 lo i) (some (.inl (dA 0, 12, .inl (upd (fun j => σ 9 i j) j v)))) q = some e := by
  intro q e h
  by_cases hq : q = xa10 lo i
  · subst hq
    rw [xw_10 hi] at h
    rw [va_up_self, ← h]
    refine congrArg some (congrArg Sum.inl (congrArg (Prod.mk _) (congrArg (Prod.mk _) (congrArg Sum.inl (funext fun j' => ?_)))))
    simp [z_up, upd]
  · rw [va_up_ne _ _ hq, ← h]
    unfold xw
    rw [xo_9]
    intro hk
    exact hq (xk_i10 (Prod.ext hk.1 hk.2)).1
theorem xs_9 (C : zC p s m args meth c cc nL own D dA) {i : Nat} {j v : Int32} (hi : i < 4) (hj : vp_in j 12) (hd : decode cc pc = .ok (.iastore, 1)) (k : zz p l e R s m args below meth c D (xA lo) nL Q (xw dA lo (z_up σ 9 i j.toNatClampNeg v)) n kc ks (pc + 1) lv st) : zz p l e R s m args below meth c D (xA lo) nL Q (xw dA lo σ) n kc ks pc lv (.int v :: .int j :: .ref (xa10 lo i) :: st) :=
  zz_iast C (t0 := 0) rfl (xw_10 hi) (xA_10 hi) hj hd (zz_mono (xu_9 hi) k)
theorem xo_10 {dA : Nat → ClassId} {lo i j κ i' : Nat} {σ : zS} {v : Int32} (h : ¬ (κ = 11 ∧ i' = i)) : xe dA lo (z_up σ 10 i j v) κ i' = xe dA lo σ κ i' := by
  unfold xe
  split <;> simp_all [z_up]
theorem xu_10 {dA : Nat → ClassId} {lo i j : Nat} {σ : zS} {v : Int32} (hi : i < 4) : ∀ (q : Nat) (e : va_E), xw dA lo (z_up σ 10 i j v) q = some e → va_up (xw dA lo σ) (xa11 lo i) (some (.inl (dA 0, 12, .inl (upd (fun j => σ 10 i j) j v)))) q = some e := by
  intro q e h
  by_cases hq : q = xa11 lo i
  · subst hq
    rw [xw_11 hi] at h
    rw [va_up_self, ← h]
    refine congrArg some (congrArg Sum.inl (congrArg (Prod.mk _) (congrArg (Prod.mk _) (congrArg Sum.inl (funext fun j' => ?_)))))
    simp [z_up, upd]
  · rw [va_up_ne _ _ hq, ← h]
    unfold xw
    rw [xo_10]
    intro hk
    exact hq (xk_i11 (Prod.ext hk.1 hk.2)).1
theorem xs_10 (C : zC p s m args meth c cc nL own D dA) {i : Nat} {j v : Int32} (hi : i < 4) (hj : vp_in j 12) (hd : decode cc pc = .ok (.iastore, 1)) (k : zz p l e R s m args below meth c D (xA lo) nL Q (xw dA lo (z_up σ 10 i j.toNatClampNeg v)) n kc ks (pc + 1) lv st) : zz p l e R s m args below meth c D (xA lo) nL Q (xw dA lo σ) n kc ks pc lv (.int v :: .int j :: .ref (xa11 lo i) :: st) :=
  zz_iast C (t0 := 0) rfl (xw_11 hi) (xA_11 hi) hj hd (zz_mono (xu_10 hi) k)
theorem xo_11 {dA : Nat → ClassId} {lo i j κ i' : Nat} {σ : zS} {v : Int32} (h : ¬ (κ = 12 ∧ i' = i)) : xe dA lo (z_up σ 11 i j v) κ i' = xe dA lo σ κ i' := by
  unfold xe
  split <;> simp_all [z_up]
theorem xu_11 {dA : Nat → ClassId} {lo i j : Nat} {σ : zS} {v : Int32} (hi : i < 4) : ∀ (q : Nat) (e : va_E), xw dA lo (z_up σ 11 i j v) q = some e → va_up (xw dA lo σ) (xa12 lo i) (some (.inl (dA 1, 12, .inl (upd (fun j => σ 11 i j) j v)))) q = some e := by
  intro q e h
  by_cases hq : q = xa12 lo i
  · subst hq
    rw [xw_12 hi] at h
    rw [va_up_self, ← h]
    refine congrArg some (congrArg Sum.inl (congrArg (Prod.mk _) (congrArg (Prod.mk _) (congrArg Sum.inl (funext fun j' => ?_)))))
    simp [z_up, upd]
  · rw [va_up_ne _ _ hq, ← h]
    unfold xw
    rw [xo_11]
    intro hk
    exact hq (xk_i12 (Prod.ext hk.1 hk.2)).1
theorem xs_11 (C : zC p s m args meth c cc nL own D dA) {i : Nat} {j v : Int32} (hi : i < 4) (hj : vp_in j 12) (hd : decode cc pc = .ok (.bastore, 1)) (k : zz p l e R s m args below meth c D (xA lo) nL Q (xw dA lo (z_up σ 11 i j.toNatClampNeg (vp_nar .boolean v))) n kc ks (pc + 1) lv st) : zz p l e R s m args below meth c D (xA lo) nL Q (xw dA lo σ) n kc ks pc lv (.int v :: .int j :: .ref (xa12 lo i) :: st) :=
  zz_zast C (t0 := 1) rfl (xw_12 hi) (xA_12 hi) hj hd (zz_mono (xu_11 hi) k)
abbrev xZ (p : Program) (l : Launch) (e : Env) (K : Nat) (s : State) (m : MethodId) (args : Array Value) (below : List Frame) (meth : Method) (c : Code) (D : va_G) (dA : Nat → ClassId) (lo nL n : Nat) (r : Option Value) (σ' σ : zS) (pc : Nat) (lv : zL) (st : List Value) : Prop := zz p l e (zR K) s m args below meth c D (xA lo) nL (MQ below (zQ D (xA lo) r (xw dA lo σ') n) args s 0 0 (xA lo)) (xw dA lo σ) n 0 0 pc lv st
abbrev xM (l : Launch) (y : MethodName) (bytes : ByteArray) (maxL : Nat) (ret : Option FieldType) (K : Nat) (D : va_G) (dA : Nat → ClassId) (lo n : Nat) (av : List Value) (σ : zS) (r : Option Value) (σ' : zS) : Prop := zM l y bytes maxL ret (zR K) D dA (xA lo) av (xw dA lo σ) n r (xw dA lo σ') n 0 0
theorem xc_Vi (C : zC p s m args meth c cc nL own D dA) {y : MethodName} {bytes : ByteArray} {maxL K K' : Nat} {ret : Option FieldType} {As rest st0 : List Value} {b ci N idx na : Nat} {v : Int32} {fs : List Value} {T : u_T} {σ' : zS} (hrc : xw dA lo σ b = some (.inr (ci, fs))) (hcl : classes[ci]? = some (y.cls, T, N)) (site : zSiteV own idx y na) (hM : xM l y bytes maxL ret K D dA lo n (.ref b :: As) σ (some (.int v)) σ') (hst : st0 = As.reverse ++ .ref b :: rest) (hna : As.length = na) (hd : decode cc pc = .ok (.invokevirtual idx, 3)) (hcode : Cond.code y bytes maxL ret ∈ zT) (hK : K + 1 ≤ K' ∧ maxL ≤ 21) (hcat : Nat.ble (rest.map fun v => v.category).sum 8 = true) (k : zz p l e (zR K') s m args below meth c D (xA lo) nL Q (xw dA lo σ') n 0 0 (pc + 3) lv (.int v :: rest)) : zz p l e (zR K') s m args below meth c D (xA lo) nL Q (xw dA lo σ) n 0 0 pc lv st0 :=
  zz_callVi (host := "") C hrc hcl site hM hst hna hd hcode (fun _ _ h => h) (fun _ h => h) (fun _ _ h => Or.inl h) ⟨rfl, rfl⟩ (zR_le hK) ⟨Nat.le_refl _, Nat.le_refl _⟩ (Nat.le_of_ble_eq_true hcat) k
theorem xc_Vv (C : zC p s m args meth c cc nL own D dA) {y : MethodName} {bytes : ByteArray} {maxL K K' : Nat} {ret : Option FieldType} {As rest st0 : List Value} {b ci N idx na : Nat} {fs : List Value} {T : u_T} {σ' : zS} (hrc : xw dA lo σ b = some (.inr (ci, fs))) (hcl : classes[ci]? = some (y.cls, T, N)) (site : zSiteV own idx y na) (hM : xM l y bytes maxL ret K D dA lo n (.ref b :: As) σ none σ') (hst : st0 = As.reverse ++ .ref b :: rest) (hna : As.length = na) (hd : decode cc pc = .ok (.invokevirtual idx, 3)) (hcode : Cond.code y bytes maxL ret ∈ zT) (hK : K + 1 ≤ K' ∧ maxL ≤ 21) (hcat : Nat.ble (rest.map fun v => v.category).sum 8 = true) (k : zz p l e (zR K') s m args below meth c D (xA lo) nL Q (xw dA lo σ') n 0 0 (pc + 3) lv rest) : zz p l e (zR K') s m args below meth c D (xA lo) nL Q (xw dA lo σ) n 0 0 pc lv st0 :=
  zz_callVv (host := "") (x := 0) C hrc hcl site hM hst hna hd hcode (fun _ _ h => h) (fun _ h => h) (fun _ _ h => Or.inl h) ⟨rfl, rfl⟩ (zR_le hK) ⟨Nat.le_refl _, Nat.le_refl _⟩ (Nat.le_of_ble_eq_true hcat) k
theorem xc_VNi (C : zC p s m args meth c cc nL own D dA) {y : MethodName} {bytes : ByteArray} {maxL K K' : Nat} {ret : Option FieldType} {As rest st0 : List Value} {b ci N idx na : Nat} {v : Int32} {fs : List Value} {T : u_T} {σ' : zS} {host : String} (hrc : xw dA lo σ b = some (.inr (ci, fs))) (hcl : classes[ci]? = some (y.cls, T, N)) (site : zSiteVN own idx y host na) (hM : xM l y bytes maxL ret K D dA lo n (.ref b :: As) σ (some (.int v)) σ') (hst : st0 = As.reverse ++ .ref b :: rest) (hna : As.length = na) (hd : decode cc pc = .ok (.invokevirtual idx, 3)) (hcode : Cond.code y bytes maxL ret ∈ zT) (hK : K + 1 ≤ K' ∧ maxL ≤ 21) (hcat : Nat.ble (rest.map fun v => v.category).sum 8 = true) (k : zz p l e (zR K') s m args below meth c D (xA lo) nL Q (xw dA lo σ') n 0 0 (pc + 3) lv (.int v :: rest)) : zz p l e (zR K') s m args below meth c D (xA lo) nL Q (xw dA lo σ) n 0 0 pc lv st0 :=
  zz_callVNi C hrc hcl site hM hst hna hd hcode (fun _ _ h => h) (fun _ h => h) (fun _ _ h => Or.inl h) ⟨rfl, rfl⟩ (zR_le hK) ⟨Nat.le_refl _, Nat.le_refl _⟩ (Nat.le_of_ble_eq_true hcat) k
theorem xc_VNv (C : zC p s m args meth c cc nL own D dA) {y : MethodName} {bytes : ByteArray} {maxL K K' : Nat} {ret : Option FieldType} {As rest st0 : List Value} {b ci N idx na : Nat} {fs : List Value} {T : u_T} {σ' : zS} {host : String} (hrc : xw dA lo σ b = some (.inr (ci, fs))) (hcl : classes[ci]? = some (y.cls, T, N)) (site : zSiteVN own idx y host na) (hM : xM l y bytes maxL ret K D dA lo n (.ref b :: As) σ none σ') (hst : st0 = As.reverse ++ .ref b :: rest) (hna : As.length = na) (hd : decode cc pc = .ok (.invokevirtual idx, 3)) (hcode : Cond.code y bytes maxL ret ∈ zT) (hK : K + 1 ≤ K' ∧ maxL ≤ 21) (hcat : Nat.ble (rest.map fun v => v.category).sum 8 = true) (k : zz p l e (zR K') s m args below meth c D (xA lo) nL Q (xw dA lo σ') n 0 0 (pc + 3) lv rest) : zz p l e (zR K') s m args below meth c D (xA lo) nL Q (xw dA lo σ) n 0 0 pc lv st0 :=
  zz_callVNv (x := 0) C hrc hcl site hM hst hna hd hcode (fun _ _ h => h) (fun _ h => h) (fun _ _ h => Or.inl h) ⟨rfl, rfl⟩ (zR_le hK) ⟨Nat.le_refl _, Nat.le_refl _⟩ (Nat.le_of_ble_eq_true hcat) k
theorem xc_Si (C : zC p s m args meth c cc nL own D dA) {y : MethodName} {bytes : ByteArray} {maxL K K' : Nat} {ret : Option FieldType} {As rest st0 : List Value} {idx na : Nat} {v : Int32} {σ' : zS} (site : zSiteS own idx y na) (hM : xM l y bytes maxL ret K D dA lo n As σ (some (.int v)) σ') (hst : st0 = As.reverse ++ rest) (hna : As.length = na) (hd : decode cc pc = .ok (.invokestatic idx, 3)) (hcode : Cond.code y bytes maxL ret ∈ zT) (hK : K + 1 ≤ K' ∧ maxL ≤ 21) (hcat : Nat.ble (rest.map fun v => v.category).sum 8 = true) (k : zz p l e (zR K') s m args below meth c D (xA lo) nL Q (xw dA lo σ') n 0 0 (pc + 3) lv (.int v :: rest)) : zz p l e (zR K') s m args below meth c D (xA lo) nL Q (xw dA lo σ) n 0 0 pc lv st0 :=
  zz_callSi (b := 0) (host := "") C site hM hst hna hd hcode (fun _ _ h => h) (fun _ h => h) (fun _ _ h => Or.inl h) ⟨rfl, rfl⟩ (zR_le hK) ⟨Nat.le_refl _, Nat.le_refl _⟩ (Nat.le_of_ble_eq_true hcat) k
theorem xc_Sv (C : zC p s m args meth c cc nL own D dA) {y : MethodName} {bytes : ByteArray} {maxL K K' : Nat} {ret : Option FieldType} {As rest st0 : List Value} {idx na : Nat} {σ' : zS} (site : zSiteS own idx y na) (hM : xM l y bytes maxL ret K D dA lo n As σ none σ') (hst : st0 = As.reverse ++ rest) (hna : As.length = na) (hd : decode cc pc = .ok (.invokestatic idx, 3)) (hcode : Cond.code y bytes maxL ret ∈ zT) (hK : K + 1 ≤ K' ∧ maxL ≤ 21) (hcat : Nat.ble (rest.map fun v => v.category).sum 8 = true) (k : zz p l e (zR K') s m args below meth c D (xA lo) nL Q (xw dA lo σ') n 0 0 (pc + 3) lv rest) : zz p l e (zR K') s m args below meth c D (xA lo) nL Q (xw dA lo σ) n 0 0 pc lv st0 :=
  zz_callSv (b := 0) (host := "") (x := 0) C site hM hst hna hd hcode (fun _ _ h => h) (fun _ h => h) (fun _ _ h => Or.inl h) ⟨rfl, rfl⟩ (zR_le hK) ⟨Nat.le_refl _, Nat.le_refl _⟩ (Nat.le_of_ble_eq_true hcat) k
theorem xr_i (C : zC p s m args meth c cc nL own D dA) {ty : FieldType} {a b : Int32} {σ' : zS} (hr : meth.sig.returnType = some ty) (hna : narrow ty (.int a) = .int a) (hd : decode cc pc = .ok (.ireturn, 1)) (hx : a = b) (hσ : σ = σ') : zz p l e R s m args below meth c D (xA lo) nL (MQ below (zQ D (xA lo) (some (.int b)) (xw dA lo σ') n) args s 0 0 (xA lo)) (xw dA lo σ) n 0 0 pc lv [.int a] :=
  zz_iret C hr hna hd (Nat.le_refl _) (Nat.le_refl _) rfl hx (by rw [hσ]; exact fun _ _ h => h)
theorem xr_v (C : zC p s m args meth c cc nL own D dA) {σ' : zS} (hr : meth.sig.returnType = none) (hd : decode cc pc = .ok (.return_, 1)) (hσ : σ = σ') : zz p l e R s m args below meth c D (xA lo) nL (MQ below (zQ D (xA lo) none (xw dA lo σ') n) args s 0 0 (xA lo)) (xw dA lo σ) n 0 0 pc lv [] :=
  zz_vret C hr hd (Nat.le_refl _) (Nat.le_refl _) rfl (by rw [hσ]; exact fun _ _ h => h)
end XL
