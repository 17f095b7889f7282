theorem x_nA_in {σ : zS} (I : xI σ) (h : σ 17 0 0 < 10) : vp_in (σ 17 0 0) 10 := by
  have h2 := I.1.2
  rw [vp_in_iff]
  rw [Int32.lt_iff_toInt_lt] at h
  rw [Int32.le_iff_toInt_le] at h2
  have e1 : (10 : Int32).toInt = 10 := rfl
  have e2 : (2 : Int32).toInt = 2 := rfl
  omega
theorem x_nb {h : Int32} (hh : h = 0 ∨ h = 1) : narrow .boolean (.int h) = .int h := by
  rcases hh with rfl | rfl <;> rfl
theorem x_fb {h : Int32} (hh : h = 0 ∨ h = 1) : fits .boolean (.int h) = true := by
  rcases hh with rfl | rfl <;> rfl
theorem z_nn {i : Int32} (h : 0 ≤ i) : ¬ i < 0 := by
  rw [Int32.le_iff_toInt_le, Int32.toInt_zero] at h
  rw [Int32.lt_iff_toInt_lt, Int32.toInt_zero]
  omega
theorem x_idle_len {σ : zS} {t : Int32} (I : xI σ) (h : ¬ xf_isThread t = 0) (h2 : xf_isBegun σ t = 0) : vp_in (σ 12 (z_ix t) 0) 12 := by
  have h6 := I.2.2.2.2.2.1 (z_ix t) (z_vlt (x_thr h))
  unfold xf_isBegun at h2
  rw [if_neg h] at h2
  split at h2
  · rename_i h3
    rw [vp_in_iff] at h6 ⊢
    rw [Int32.le_iff_toInt_le, Int32.toInt_zero] at h3
    omega
  · exact absurd h2 (by decide)
theorem x_lf_in' {σ : zS} : ∀ (k i : Nat), i + k = 40 → z_o 40 (xf_lf σ k i) := by
  intro k
  induction k with
  | zero => intro i _; exact Or.inl rfl
  | succ k ih =>
    intro i hi
    unfold xf_lf
    split
    · exact Or.inr (vp_in_nI (by omega) (by decide))
    · exact ih (i + 1) (by omega)
theorem x_lf_in {σ : zS} (h : ¬ xf_leastFreeNumber σ = -1) : vp_in (xf_leastFreeNumber σ) 40 := z_ovin (x_lf_in' 40 0 rfl) h
theorem x_ff_at {i f i' j' : Nat} {σ : zS} (h : f ≠ 5) : ∀ k, xf_ff σ i k f i' j' = σ f i' j' := by
  intro k
  induction k with
  | zero => rfl
  | succ k ih => unfold xf_ff; simp [z_at, h, ih]
theorem x_fill_at {σ : zS} {i f i' j' : Nat} {a c : Int32} (h5 : f ≠ 5) (h6 : f ≠ 6) (h7 : f ≠ 7) : xf_fill σ i a c f i' j' = σ f i' j' := by
  unfold xf_fill
  rw [x_ff_at h5]
  simp [z_at, h6, h7]
theorem x_fill_1 {σ : zS} {i i' j' : Nat} {a c : Int32} : xf_fill σ i a c 1 i' j' = σ 1 i' j' := x_fill_at (by decide) (by decide) (by decide)
theorem x_fill_18 {σ : zS} {i i' j' : Nat} {a c : Int32} : xf_fill σ i a c 18 i' j' = σ 18 i' j' := x_fill_at (by decide) (by decide) (by decide)
theorem x_drop_at {σ : zS} {o : Int32} {f i' j' : Nat} (h1 : f ≠ 1) (h6 : f ≠ 6) (h18 : f ≠ 18) : xf_drop σ o f i' j' = σ f i' j' := by
  unfold xf_drop
  simp [z_at, h1, h6, h18]
theorem x_es_at {s : Int32} {f i' j' : Nat} (h1 : f ≠ 1) (h6 : f ≠ 6) (h18 : f ≠ 18) : ∀ (k i : Nat) (σ : zS), xf_es s k i σ f i' j' = σ f i' j' := by
  intro k
  induction k with
  | zero => intro i σ; rfl
  | succ k ih =>
    intro i σ
    unfold xf_es
    rw [ih]
    split
    · exact x_drop_at h1 h6 h18
    · rfl
theorem x_dropEntry_12 {σ : zS} {s : Int32} {i j : Nat} : xf_dropEntry σ s 12 i j = σ 12 i j := by
  unfold xf_dropEntry
  split
  · unfold xf_emptyScope
    simp only [z_at]
    simp
    rw [x_es_at (by decide) (by decide) (by decide)]
    simp [z_at]
  · simp [z_at]
theorem x_out8 {w : Int32} (h0 : ¬ w = 0) (h1 : ¬ w = 1) (h2 : ¬ w = 2) (h3 : ¬ w = 3) (h4 : ¬ w = 4) (h5 : ¬ w = 5) (h6 : ¬ w = 6) (h7 : ¬ w = 7) : w.toInt < 0 ∨ 7 < w.toInt := by
  have hne : ∀ (v : Int32), ¬ w = v → w.toInt ≠ v.toInt := fun v h q => h (Int32.toInt_inj.mp q)
  have e0 := hne _ h0
  have e1 := hne _ h1
  have e2 := hne _ h2
  have e3 := hne _ h3
  have e4 := hne _ h4
  have e5 := hne _ h5
  have e6 := hne _ h6
  have e7 := hne _ h7
  simp only [show (0 : Int32).toInt = 0 from rfl, show (1 : Int32).toInt = 1 from rfl, show (2 : Int32).toInt = 2 from rfl, show (3 : Int32).toInt = 3 from rfl, show (4 : Int32).toInt = 4 from rfl, show (5 : Int32).toInt = 5 from rfl, show (6 : Int32).toInt = 6 from rfl, show (7 : Int32).toInt = 7 from rfl] at e0 e1 e2 e3 e4 e5 e6 e7
  omega
