theorem z_nge {iv M : Int32} {i N : Nat} (hiv : iv = nI i) (hM : M = nI N) (h : i < N) (hN : N < 2 ^ 31) : ¬ M ≤ iv := by
  rw [hiv, hM]
  exact nI_ge h hN
theorem z_ge {iv M : Int32} {i N : Nat} (hiv : iv = nI i) (hM : M = nI N) (h : N ≤ i) (hi : i < 2 ^ 31) : M ≤ iv := by
  rw [hiv, hM]
  exact nI_le h hi
theorem z_vinI {iv : Int32} {i N : Nat} (hiv : iv = nI i) (h : i < N) (hN : N < 2 ^ 31) : vp_in iv N := by
  rw [hiv]
  exact vp_in_nI h hN
theorem z_ixI {iv : Int32} {i : Nat} (hiv : iv = nI i) (h : i < 2 ^ 31) : z_ix iv = i := by
  rw [hiv]
  exact nI_clamp h
theorem z_sI {iv : Int32} {i : Nat} (hiv : iv = nI i) : iv + 1 = nI (i + 1) := by
  rw [hiv]
  exact nI_1 i
theorem x_top_o {σ : zS} {t : Nat} (I : xI σ) (ht : t < 4) : z_o 12 (xf_top σ t) := by
  obtain ⟨j, hj, e⟩ := vp_in_of (I.2.2.2.2.2.1 t ht) (by decide)
  unfold xf_top
  rw [e]
  cases j with
  | zero => exact Or.inl (by decide)
  | succ j =>
    rw [nI_pred]
    exact Or.inr (vp_in_nI (by omega) (by decide))
theorem x_top_in {σ : zS} {t : Nat} (I : xI σ) (ht : t < 4) (h : ¬ σ 12 t 0 ≤ 0) : vp_in (xf_top σ t) 12 := by
  obtain ⟨j, hj, e⟩ := vp_in_of (I.2.2.2.2.2.1 t ht) (by decide)
  unfold xf_top
  rw [e] at h ⊢
  cases j with
  | zero => exact absurd (by decide) h
  | succ j =>
    rw [nI_pred]
    exact vp_in_nI (by omega) (by decide)
theorem x_len_in {σ : zS} {t : Nat} (I : xI σ) (ht : t < 4) (h : xf_isFull σ t = 0) : vp_in (σ 12 t 0) 12 := by
  have h1 := I.2.2.2.2.2.1 t ht
  unfold xf_isFull at h
  have h2 : σ 12 t 0 < 12 := by
    by_cases q : σ 12 t 0 < 12
    · exact q
    · rw [if_neg q] at h
      exact absurd h (by decide)
  rw [vp_in_iff] at h1 ⊢
  rw [Int32.lt_iff_toInt_lt] at h2
  have : (12 : Int32).toInt = 12 := rfl
  omega
theorem x_fw_o {σ : zS} {t : Nat} {a : Int32} (I : xI σ) (ht : t < 4) : ∀ (k : Nat) (step : Int32), z_o 12 step → z_o 12 (xf_fw σ t a k step) := by
  intro k
  induction k with
  | zero => intro step _; exact Or.inl rfl
  | succ k ih =>
    intro step hs
    unfold xf_fw
    split
    · exact Or.inl rfl
    · rename_i h1
      split
      · exact hs
      · exact ih _ (I.2.2.2.2.2.2.1 t ht _ (z_vlt (z_ovin hs h1)))
theorem x_firstWith_o {σ : zS} {t : Nat} {a : Int32} (I : xI σ) (ht : t < 4) : z_o 12 (xf_firstWith σ t a) := x_fw_o I ht 12 _ (x_top_o I ht)
theorem x_av_o {σ : zS} {t : Nat} (I : xI σ) (ht : t < 4) : ∀ (k d : Nat) (step : Int32), z_o 12 step → z_o 12 (xf_av σ t k d step) := by
  intro k
  induction k with
  | zero => intro d step hs; exact hs
  | succ k ih =>
    intro d step hs
    cases d with
    | zero => exact hs
    | succ d =>
      unfold xf_av
      split
      · exact hs
      · rename_i h1
        exact ih _ _ (I.2.2.2.2.2.2.1 t ht _ (z_vlt (z_ovin hs h1)))
theorem x_av_d {σ : zS} {t k i : Nat} {d step iv : Int32} (hd : ¬ d < 0) (hiv : iv = nI i) (h : d ≤ iv) (hi : i < 2 ^ 31 := by omega) : xf_av σ t (k + 1) (z_ix d - i) step = step := by
  obtain ⟨j, hj, rfl⟩ := nI_of hd
  rw [hiv] at h
  have h1 : j ≤ i := (nI_leI hj hi).mp h
  rw [show z_ix (nI j) = j from nI_clamp hj, show j - i = 0 by omega]
  rfl
theorem x_av_s {i : Nat} {d iv : Int32} (hd : ¬ d < 0) (hiv : iv = nI i) (h : ¬ d ≤ iv) (hi : i < 2 ^ 31) : ∃ q, z_ix d - i = q + 1 := by
  obtain ⟨j, hj, rfl⟩ := nI_of hd
  rw [hiv] at h
  have h1 : ¬ j ≤ i := fun q => h ((nI_leI hj hi).mpr q)
  rw [show z_ix (nI j) = j from nI_clamp hj]
  exact ⟨j - i - 1, by omega⟩
