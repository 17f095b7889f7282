def xs0 : zS := fun f _ _ => if f = 4 ∨ f = 6 then -1 else 0
def xc (dA : Nat → ClassId) (lo m i1 i2 i3 : Nat) : zW := fun q => if lo + m ≤ q then none else if q = lo + 1 then some (.inl (dA 2, 10, .inr (.inr (.inr (.inr (fun j => if j < i1 then some (xa6 lo j) else none)))))) else if q = lo + 2 then some (.inl (dA 3, 40, .inr (.inr (.inr (.inr (fun j => if j < i2 then some (xa7 lo j) else none)))))) else if q = lo + 3 then some (.inl (dA 4, 4, .inr (.inr (.inr (.inr (fun j => if j < i3 then some (xa9 lo j) else none)))))) else xw dA lo xs0 q
theorem xc_0 {dA : Nat → ClassId} {lo m i1 i2 i3 : Nat} (hm : 6 ≤ m) : xc dA lo m i1 i2 i3 (xa0 lo 0) = some (.inr (3, [.ref (xa1 lo 0), .ref (xa2 lo 0), .ref (xa3 lo 0), .ref (xa4 lo 0), .ref (xa5 lo 0), .int 0, .int 0, .int 0])) := by
  unfold xc
  rw [if_neg (by unfold xa0; omega), if_neg (by unfold xa0; omega), if_neg (by unfold xa0; omega), if_neg (by unfold xa0; omega), xw_0 (by decide)]
  rfl
theorem xc_1 {dA : Nat → ClassId} {lo m i1 i2 i3 : Nat} (hm : 6 ≤ m) : xc dA lo m i1 i2 i3 (xa1 lo 0) = some (.inl (dA 2, 10, .inr (.inr (.inr (.inr (fun j => if j < i1 then some (xa6 lo j) else none)))))) := by
  unfold xc
  rw [if_neg (by unfold xa1; omega), if_pos (by unfold xa1; omega)]
theorem xc_2 {dA : Nat → ClassId} {lo m i1 i2 i3 : Nat} (hm : 6 ≤ m) : xc dA lo m i1 i2 i3 (xa2 lo 0) = some (.inl (dA 3, 40, .inr (.inr (.inr (.inr (fun j => if j < i2 then some (xa7 lo j) else none)))))) := by
  unfold xc
  rw [if_neg (by unfold xa2; omega), if_neg (by unfold xa2; omega), if_pos (by unfold xa2; omega)]
theorem xc_3 {dA : Nat → ClassId} {lo m i1 i2 i3 : Nat} (hm : 6 ≤ m) : xc dA lo m i1 i2 i3 (xa3 lo 0) = some (.inl (dA 4, 4, .inr (.inr (.inr (.inr (fun j => if j < i3 then some (xa9 lo j) else none)))))) := by
  unfold xc
  rw [if_neg (by unfold xa3; omega), if_neg (by unfold xa3; omega), if_neg (by unfold xa3; omega), if_pos (by unfold xa3; omega)]
/-- elsewhere the world is what it will be -/
theorem xc_o {dA : Nat → ClassId} {lo m i1 i2 i3 q : Nat} (h : q < lo + m) (h1 : q ≠ lo + 1) (h2 : q ≠ lo + 2) (h3 : q ≠ lo + 3) : xc dA lo m i1 i2 i3 q = xw dA lo xs0 q := by
  unfold xc
  rw [if_neg (by omega), if_neg h1, if_neg h2, if_neg h3]
theorem xc_hi {dA : Nat → ClassId} {lo m i1 i2 i3 q : Nat} {e : va_E} (h : xc dA lo m i1 i2 i3 q = some e) : q < lo + m := by
  unfold xc at h
  by_cases hq : lo + m ≤ q
  · rw [if_pos hq] at h
    cases h
  · omega
theorem xc_lo {dA : Nat → ClassId} {lo m i1 i2 i3 q : Nat} {e : va_E} (h : xc dA lo m i1 i2 i3 q = some e) : lo ≤ q := by
  by_cases h1 : q = lo + 1
  · omega
  · by_cases h2 : q = lo + 2
    · omega
    · by_cases h3 : q = lo + 3
      · omega
      · rw [xc_o (xc_hi h) h1 h2 h3] at h
        exact (xw_in h).1
theorem x_refs {f : Nat → Nat} {i v : Nat} (hv : v = f i) : va_up (fun j => if j < i then some (f j) else none) i (some v) = fun j => if j < i + 1 then some (f j) else none := by
  funext j
  unfold va_up
  by_cases h : j = i
  · subst h
    rw [if_pos rfl, if_pos (by omega), hv]
  · rw [if_neg h]
    show (if j < i then some (f j) else none) = _
    by_cases h2 : j < i
    · rw [if_pos h2, if_pos (by omega)]
    · rw [if_neg h2, if_neg (by omega)]
theorem xc_s1 {dA : Nat → ClassId} {lo i i2 i3 : Nat} {e0 : Option va_E} (hi : i < 10) : ∀ (q : Nat) (e : va_E), xc dA lo (6 + (i + 1)) (i + 1) i2 i3 q = some e → va_up (va_up (va_up (xc dA lo (6 + i) i i2 i3) (lo + (6 + i)) e0) (lo + (6 + i)) (some (.inr (0, [.int 0, .int 0, .int 0, .int 0, .int (-1)])))) (xa1 lo 0) (some (.inl (dA 2, 10, .inr (.inr (.inr (.inr (va_up (fun j => if j < i then some (xa6 lo j) else none) i (some (lo + (6 + i)))))))))) q = some e := by
  intro q e h
  have hq := xc_hi h
  by_cases h1 : q = xa1 lo 0
  · subst h1
    rw [xc_1 (by omega)] at h
    rw [va_up_self, x_refs (f := xa6 lo) (by unfold xa6; omega)]
    exact h
  · rw [va_up_ne _ _ h1]
    have h1' : q ≠ lo + 1 := h1
    by_cases h2 : q = lo + (6 + i)
    · subst h2
      rw [va_up_self]
      rw [xc_o (by omega) (by omega) (by omega) (by omega), show lo + (6 + i) = xa6 lo i by unfold xa6; omega, xw_6 hi] at h
      exact h
    · rw [va_up_ne _ _ h2, va_up_ne _ _ h2]
      unfold xc at h ⊢
      rw [if_neg (by omega), if_neg h1'] at h ⊢
      exact h
theorem xc_s2 {dA : Nat → ClassId} {lo i i3 : Nat} {e0 : Option va_E} (hi : i < 40) : ∀ (q : Nat) (e : va_E), xc dA lo (16 + 2 * (i + 1)) 10 (i + 1) i3 q = some e → va_up (va_up (va_up (va_up (xc dA lo (16 + 2 * i) 10 i i3) (lo + (16 + 2 * i)) e0) (lo + (16 + 2 * i) + 1) (some (.inl (dA 0, 4, .inl (fun _ => 0))))) (lo + (16 + 2 * i)) (some (.inr (1, [.ref (lo + (16 + 2 * i) + 1), .int (-1), .int 0, .int 0])))) (xa2 lo 0) (some (.inl (dA 3, 40, .inr (.inr (.inr (.inr (va_up (fun j => if j < i then some (xa7 lo j) else none) i (some (lo + (16 + 2 * i)))))))))) q = some e := by
  intro q e h
  have hq := xc_hi h
  by_cases h1 : q = xa2 lo 0
  · subst h1
    rw [xc_2 (by omega)] at h
    rw [va_up_self, x_refs (f := xa7 lo) (by unfold xa7; omega)]
    exact h
  · rw [va_up_ne _ _ h1]
    have h1' : q ≠ lo + 2 := h1
    by_cases h2 : q = lo + (16 + 2 * i)
    · subst h2
      rw [va_up_self]
      rw [xc_o (by omega) (by omega) (by omega) (by omega), show lo + (16 + 2 * i) = xa7 lo i by unfold xa7; omega, xw_7 hi] at h
      rw [show lo + (16 + 2 * i) + 1 = xa8 lo i by unfold xa8; omega]
      exact h
    · rw [va_up_ne _ _ h2]
      by_cases h3 : q = lo + (16 + 2 * i) + 1
      · subst h3
        rw [va_up_self]
        rw [xc_o (by omega) (by omega) (by omega) (by omega), show lo + (16 + 2 * i) + 1 = xa8 lo i by unfold xa8; omega, xw_8 hi] at h
        exact h
      · rw [va_up_ne _ _ h3, va_up_ne _ _ h2]
        unfold xc at h ⊢
        rw [if_neg (by omega)] at h ⊢
        rw [if_neg h1'] at h ⊢
        exact h
theorem xc_s3 {dA : Nat → ClassId} {lo i : Nat} {e0 : Option va_E} (hi : i < 4) : ∀ (q : Nat) (e : va_E), xc dA lo (96 + 4 * (i + 1)) 10 40 (i + 1) q = some e → va_up (va_up (va_up (va_up (va_up (va_up (xc dA lo (96 + 4 * i) 10 40 i) (lo + (96 + 4 * i)) e0) (lo + (96 + 4 * i) + 1) (some (.inl (dA 0, 12, .inl (fun _ => 0))))) (lo + (96 + 4 * i) + 1 + 1) (some (.inl (dA 0, 12, .inl (fun _ => 0))))) (lo + (96 + 4 * i) + 1 + 2) (some (.inl (dA 1, 12, .inl (fun _ => 0))))) (lo + (96 + 4 * i)) (some (.inr (2, [.ref (lo + (96 + 4 * i) + 1), .ref (lo + (96 + 4 * i) + 1 + 1), .ref (lo + (96 + 4 * i) + 1 + 2), .int 0, .int 0])))) (xa3 lo 0) (some (.inl (dA 4, 4, .inr (.inr (.inr (.inr (va_up (fun j => if j < i then some (xa9 lo j) else none) i (some (lo + (96 + 4 * i)))))))))) q = some e := by
  intro q e h
  have hq := xc_hi h
  by_cases h1 : q = xa3 lo 0
  · subst h1
    rw [xc_3 (by omega)] at h
    rw [va_up_self, x_refs (f := xa9 lo) (by unfold xa9; omega)]
    exact h
  · rw [va_up_ne _ _ h1]
    have h1' : q ≠ lo + 3 := h1
    by_cases h2 : q = lo + (96 + 4 * i)
    · subst h2
      rw [va_up_self]
      rw [xc_o (by omega) (by omega) (by omega) (by omega), show lo + (96 + 4 * i) = xa9 lo i by unfold xa9; omega, xw_9 hi] at h
      rw [show lo + (96 + 4 * i) + 1 + 2 = xa12 lo i by unfold xa12; omega, show lo + (96 + 4 * i) + 1 + 1 = xa11 lo i by unfold xa11; omega, show lo + (96 + 4 * i) + 1 = xa10 lo i by unfold xa10; omega]
      exact h
    · rw [va_up_ne _ _ h2]
      by_cases h5 : q = lo + (96 + 4 * i) + 1 + 2
      · subst h5
        rw [va_up_self]
        rw [xc_o (by omega) (by omega) (by omega) (by omega), show lo + (96 + 4 * i) + 1 + 2 = xa12 lo i by unfold xa12; omega, xw_12 hi] at h
        exact h
      · rw [va_up_ne _ _ h5]
        by_cases h4 : q = lo + (96 + 4 * i) + 1 + 1
        · subst h4
          rw [va_up_self]
          rw [xc_o (by omega) (by omega) (by omega) (by omega), show lo + (96 + 4 * i) + 1 + 1 = xa11 lo i by unfold xa11; omega, xw_11 hi] at h
          exact h
        · rw [va_up_ne _ _ h4]
          by_cases h3 : q = lo + (96 + 4 * i) + 1
          · subst h3
            rw [va_up_self]
            rw [xc_o (by omega) (by omega) (by omega) (by omega), show lo + (96 + 4 * i) + 1 = xa10 lo i by unfold xa10; omega, xw_10 hi] at h
            exact h
          · rw [va_up_ne _ _ h3, va_up_ne _ _ h2]
            unfold xc at h ⊢
            rw [if_neg (by omega)] at h ⊢
            by_cases g1 : q = lo + 1
            · rw [if_pos g1] at h ⊢
              exact h
            · rw [if_neg g1] at h ⊢
              by_cases g2 : q = lo + 2
              · rw [if_pos g2] at h ⊢
                exact h
              · rw [if_neg g2, if_neg h1'] at h ⊢
                exact h
theorem xc_end {dA : Nat → ClassId} {lo : Nat} : ∀ (q : Nat) (e : va_E), xw dA lo xs0 q = some e → xc dA lo 112 10 40 4 q = some e := by
  intro q e h
  have hq := (xw_in h).2
  by_cases h1 : q = xa1 lo 0
  · subst h1
    rw [xc_1 (by omega)]
    rw [xw_1 (by decide)] at h
    exact h
  · by_cases h2 : q = xa2 lo 0
    · subst h2
      rw [xc_2 (by omega)]
      rw [xw_2 (by decide)] at h
      exact h
    · by_cases h3 : q = xa3 lo 0
      · subst h3
        rw [xc_3 (by omega)]
        rw [xw_3 (by decide)] at h
        exact h
      · rw [xc_o hq h1 h2 h3]
        exact h
