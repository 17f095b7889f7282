def mI (σ : zS) : Prop := (σ 0 0 0 ≤ 10 ∧ 2 ≤ σ 0 0 0) ∧ (∀ j, j < 10 → vp_in (σ 3 0 j) 10) ∧ (∀ o, o < 40 → z_o 10 (σ 5 0 o)) ∧ (∀ o, o < 40 → vp_in (σ 6 0 o) 5) ∧ (∀ k, k < 160 → z_o 40 (σ 7 0 k)) ∧ (∀ t, t < 4 → vp_in (σ 11 0 t) 13) ∧ (∀ k, k < 48 → vp_in (σ 12 0 k) 10) ∧ (∀ k, k < 48 → z_o 12 (σ 13 0 k)) ∧ (∀ k, k < 4 → z_o 40 (σ 15 0 k)) ∧ (∀ t, t < 4 → σ 9 0 t = 0 ∨ ¬ σ 11 0 t ≤ 0)
theorem m_ixE {t k : Int32} {a b M : Nat} {w : Int32} (hw : w = nI M) (ht : t = nI a) (hk : k = nI b) : t * w + k = nI (a * M + b) := by
  rw [ht, hk, hw, pk_mul, nI_add]
theorem m_ix {t k : Int32} (ht : vp_in t 4) (hk : vp_in k 12) : vp_in (t * 12 + k) 48 := by
  obtain ⟨a, ha, ea⟩ := vp_in_of ht (by decide)
  obtain ⟨b, hb, eb⟩ := vp_in_of hk (by decide)
  rw [m_ixE (w := 12) (M := 12) rfl ea eb]
  exact vp_in_nI (by omega) (by decide)
theorem m_ix4 {o f : Int32} (ho : vp_in o 40) (hf : vp_in f 4) : vp_in (o * 4 + f) 160 := by
  obtain ⟨a, ha, ea⟩ := vp_in_of ho (by decide)
  obtain ⟨b, hb, eb⟩ := vp_in_of hf (by decide)
  rw [m_ixE (w := 4) (M := 4) rfl ea eb]
  exact vp_in_nI (by omega) (by decide)
theorem z_nlt {N : Nat} {k : Int32} (h : z_o N k) (h0 : ¬ k < 0) : vp_in k N := z_ovin h (fun q => h0 (by rw [q]; decide))
theorem z_nle {N : Nat} {k : Int32} (h : z_o N k) (h0 : 0 ≤ k) : vp_in k N := z_ovin h (fun q => by rw [q] at h0; exact absurd h0 (by decide))
theorem z_vin2 {x M : Int32} {N : Nat} (h0 : ¬ x < 0) (h1 : ¬ M < x) (hM : M.toInt + 1 = N) : vp_in x N := by
  rw [vp_in_iff]
  rw [Int32.lt_iff_toInt_lt, Int32.toInt_zero] at h0
  rw [Int32.lt_iff_toInt_lt] at h1
  omega
theorem z_vin3 {x M : Int32} {N : Nat} (h0 : ¬ x < 0) (h1 : x ≤ M) (hM : M.toInt + 1 = N) : vp_in x N := by
  rw [vp_in_iff]
  rw [Int32.lt_iff_toInt_lt, Int32.toInt_zero] at h0
  rw [Int32.le_iff_toInt_le] at h1
  omega
theorem m_idle_thr {σ : zS} {t : Int32} (h : mf_idle σ t = 0) : vp_in t 4 := by
  unfold mf_idle at h
  split at h
  · exact absurd h (by decide)
  · split at h
    · exact absurd h (by decide)
    · rename_i h1 h2
      exact z_vin2 h1 h2 rfl
theorem m_idle_len {σ : zS} {t : Int32} (I : mI σ) (h : mf_idle σ t = 0) : ¬ σ 11 0 (z_ix t) ≤ 0 := by
  have ht := m_idle_thr h
  unfold mf_idle at h
  split at h
  · exact absurd h (by decide)
  · split at h
    · exact absurd h (by decide)
    · split at h
      · exact absurd h (by decide)
      · rename_i h3
        exact (I.2.2.2.2.2.2.2.2.2 _ (z_vlt ht)).resolve_left h3
theorem m_area_in {σ : zS} {a : Int32} (I : mI σ) (h : mf_noArea σ a = 0) : vp_in a 10 := by
  have h2 := I.1.1
  unfold mf_noArea at h
  split at h
  · exact absurd h (by decide)
  · split at h
    · rename_i h0 h1
      rw [vp_in_iff]
      rw [Int32.lt_iff_toInt_lt, Int32.toInt_zero] at h0
      rw [Int32.lt_iff_toInt_lt] at h1
      rw [Int32.le_iff_toInt_le] at h2
      have e1 : (10 : Int32).toInt = 10 := rfl
      omega
    · exact absurd h (by decide)
theorem m_scope_in {σ : zS} {a : Int32} (I : mI σ) (h : mf_noScope σ a = 0) : vp_in a 10 := by
  have h2 := I.1.1
  unfold mf_noScope at h
  split at h
  · exact absurd h (by decide)
  · split at h
    · rename_i h0 h1
      rw [vp_in_iff]
      rw [Int32.lt_iff_toInt_lt] at h0
      rw [Int32.lt_iff_toInt_lt] at h1
      rw [Int32.le_iff_toInt_le] at h2
      have e1 : (10 : Int32).toInt = 10 := rfl
      have e2 : (2 : Int32).toInt = 2 := rfl
      omega
    · exact absurd h (by decide)
theorem m_obj {σ : zS} {o : Int32} (h : mf_noObject σ o = 0) : vp_in o 40 := by
  unfold mf_noObject at h
  split at h
  · exact absurd h (by decide)
  · split at h
    · exact absurd h (by decide)
    · rename_i h1 h2
      exact z_vin2 h1 h2 rfl
theorem m_top_o {σ : zS} {t : Nat} (I : mI σ) (ht : t < 4) : z_o 12 (σ 11 0 t - 1) := by
  obtain ⟨j, hj, e⟩ := vp_in_of (I.2.2.2.2.2.1 t ht) (by decide)
  rw [e]
  cases j with
  | zero => exact Or.inl (by decide)
  | succ j =>
    rw [nI_pred]
    exact Or.inr (vp_in_nI (by omega) (by decide))
theorem m_top_in {σ : zS} {t : Nat} (I : mI σ) (ht : t < 4) (h : ¬ σ 11 0 t ≤ 0) : vp_in (σ 11 0 t - 1) 12 := by
  obtain ⟨j, hj, e⟩ := vp_in_of (I.2.2.2.2.2.1 t ht) (by decide)
  rw [e] at h ⊢
  cases j with
  | zero => exact absurd (by decide) h
  | succ j =>
    rw [nI_pred]
    exact vp_in_nI (by omega) (by decide)
theorem m_len_in {σ : zS} {t : Nat} (I : mI σ) (ht : t < 4) (h : ¬ σ 11 0 t = 12) : vp_in (σ 11 0 t) 12 := by
  obtain ⟨j, hj, e⟩ := vp_in_of (I.2.2.2.2.2.1 t ht) (by decide)
  rw [e] at h ⊢
  have : j ≠ 12 := fun q => h (by rw [q]; rfl)
  exact vp_in_nI (by omega) (by decide)
theorem m_vw_o {σ : zS} {t : Int32} (I : mI σ) (ht : vp_in t 4) : ∀ (d : Nat) (k : Int32), z_o 12 k → z_o 12 (mf_vw σ t d k) := by
  intro d
  induction d with
  | zero => intro k hk; exact hk
  | succ d ih =>
    intro k hk
    unfold mf_vw
    split
    · exact hk
    · rename_i h
      exact ih _ (I.2.2.2.2.2.2.2.1 _ (z_vlt (m_ix ht (z_nlt hk h))))
theorem m_viewed_o {σ : zS} {t i : Int32} (I : mI σ) (ht : vp_in t 4) : z_o 12 (mf_viewed σ t i) := m_vw_o I ht _ _ (m_top_o I (z_vlt ht))
theorem m_sw_o {σ : zS} {t a : Int32} (I : mI σ) (ht : vp_in t 4) : ∀ (k i : Nat), z_o 12 (mf_sw σ t a k i) := by
  intro k
  induction k with
  | zero => intro i; exact Or.inl rfl
  | succ k ih =>
    intro i
    unfold mf_sw
    split
    · split
      · exact m_viewed_o I ht
      · exact ih _
    · exact Or.inl rfl
theorem m_stepWith_o {σ : zS} {t a : Int32} (I : mI σ) (ht : vp_in t 4) : z_o 12 (mf_stepWith σ t a) := m_sw_o I ht 12 0
theorem m_gt1 {q : Int32} (h : z_o 10 q) (h2 : ¬ q ≤ 1) : vp_in q 10 := by
  refine z_ovin h (fun e => h2 ?_)
  rw [e]
  decide
theorem m_ct {t k : Int32} : t * 12 + k - 1 = t * 12 + (k - 1) := by
  rw [Int32.sub_eq_add_neg, Int32.sub_eq_add_neg, Int32.add_assoc]
theorem z_nnI {iv : Int32} {i : Nat} (hiv : iv = nI i) (h : i < 2 ^ 31) : ¬ iv < 0 := by
  rw [hiv]
  exact nI_pos h
theorem m_nA_in {σ : zS} (I : mI σ) (h : ¬ σ 0 0 0 = 10) : vp_in (σ 0 0 0) 10 := by
  have h1 := I.1.1
  have h2 := I.1.2
  have h3 : ¬ (σ 0 0 0).toInt = 10 := fun q => h (Int32.toInt_inj.mp q)
  rw [vp_in_iff]
  rw [Int32.le_iff_toInt_le] at h1 h2
  have e1 : (10 : Int32).toInt = 10 := rfl
  have e2 : (2 : Int32).toInt = 2 := rfl
  omega
theorem m_21 {a : Int32} (h : 2 ≤ a) : ¬ a ≤ 1 := by
  rw [Int32.le_iff_toInt_le] at h ⊢
  have e1 : (1 : Int32).toInt = 1 := rfl
  have e2 : (2 : Int32).toInt = 2 := rfl
  omega
theorem m_12 {a : Int32} (h : ¬ 2 ≤ a) : a ≤ 1 := by
  rw [Int32.le_iff_toInt_le] at h ⊢
  have e1 : (1 : Int32).toInt = 1 := rfl
  have e2 : (2 : Int32).toInt = 2 := rfl
  omega
theorem m_fw {σ : zS} {o f : Int32} (I : mI σ) (ho : vp_in o 40) (h0 : ¬ f < 0) (h : f < σ 6 0 (z_ix o)) : vp_in f 4 := by
  have h6 : vp_in (σ 6 0 (z_ix o)) 5 := I.2.2.2.1 _ (z_vlt ho)
  rw [vp_in_iff] at h6 ⊢
  rw [Int32.lt_iff_toInt_lt, Int32.toInt_zero] at h0
  rw [Int32.lt_iff_toInt_lt] at h
  omega
/-- a number that is -1 or an object's, and not below 0 -/
theorem m_gin {σ : zS} {g : Int32} (h0 : ¬ g < 0) (h : g = -1 ∨ mf_noObject σ g = 0) : vp_in g 40 := by
  rcases h with h | h
  · exact absurd (by rw [h]; decide) h0
  · exact m_obj h
