-- the kept ones are counted, and listed
def x_cn (σ : zS) : Nat → Nat
  | 0 => 0
  | k + 1 => x_cn σ k + (if σ 8 k 0 = 0 then 0 else 1)
def xF (σ : zS) : Prop := σ 16 0 0 = nI (x_cn σ 40) ∧ ∀ j, j < x_cn σ 40 → vp_in (σ 15 0 j) 40
theorem x_cn_le {σ : zS} (k : Nat) : x_cn σ k ≤ k := by
  induction k with
  | zero => exact Nat.le_refl _
  | succ k ih => unfold x_cn; split <;> omega
theorem x_cn_lt {σ : zS} {i : Nat} (h : σ 8 i 0 = 0) : ∀ k, i < k → x_cn σ k < k := by
  intro k
  induction k with
  | zero => intro q; omega
  | succ k ih =>
    intro q
    unfold x_cn
    by_cases hk : i = k
    · subst hk
      rw [if_pos h]
      have := x_cn_le (σ := σ) i
      omega
    · have := ih (by omega)
      split <;> omega
theorem x_cn_congr {σ σ' : zS} (k : Nat) (h : ∀ i, i < k → σ 8 i 0 = σ' 8 i 0) : x_cn σ k = x_cn σ' k := by
  induction k with
  | zero => rfl
  | succ k ih => unfold x_cn; rw [ih (fun i hi => h i (by omega)), h k (by omega)]
theorem x_cn_up {σ : zS} {i : Nat} (h : σ 8 i 0 = 0) (k : Nat) : x_cn (z_up σ 8 i 0 1) k = x_cn σ k + (if i < k then 1 else 0) := by
  induction k with
  | zero => rfl
  | succ k ih =>
    unfold x_cn
    rw [ih]
    by_cases hk : k = i
    · subst hk
      simp [z_at, h]
    · have e0 : z_up σ 8 i 0 1 8 k 0 = σ 8 k 0 := by simp [z_at, hk]
      rw [e0]
      by_cases hik : i < k
      · rw [if_pos hik, if_pos (show i < k + 1 by omega)]
        split <;> omega
      · rw [if_neg hik, if_neg (show ¬ i < k + 1 by omega)]
        split <;> omega
theorem x_keep_at {σ : zS} {o : Int32} {f i j : Nat} (h8 : f ≠ 8) (h15 : f ≠ 15) (h16 : f ≠ 16) : xf_keep σ o f i j = σ f i j := by
  unfold xf_keep
  split
  · rfl
  · split
    · rfl
    · split
      · rfl
      · simp [z_at, h8, h15, h16]
theorem x_keep_I {σ : zS} {o : Int32} (I : xI σ) : xI (xf_keep σ o) := by
  unfold xf_keep
  split
  · exact I
  · split
    · exact I
    · split
      · exact I
      · exact xI_u16 (xI_u15 (xI_u8 I))
theorem x_keep_in {σ : zS} {o : Int32} (F : xF σ) (ho : vp_in o 40) (h : σ 8 (z_ix o) 0 = 0) : vp_in (σ 16 0 0) 40 := by
  rw [F.1]
  exact vp_in_nI (x_cn_lt h 40 (z_vlt ho)) (by decide)
theorem x_keep_F {σ : zS} {o : Int32} (F : xF σ) (ho : z_o 40 o) : xF (xf_keep σ o) := by
  unfold xf_keep
  split
  · exact F
  · rename_i h1
    have hv := z_ovin ho h1
    split
    · exact F
    · split
      · exact F
      · rename_i h3
        have h8 : σ 8 (z_ix o) 0 = 0 := by simpa using h3
        have hl : z_ix o < 40 := z_vlt hv
        have hc : x_cn σ 40 < 40 := x_cn_lt h8 40 hl
        have e : x_cn (z_up (z_up (z_up σ 8 (z_ix o) 0 1) 15 0 (z_ix (σ 16 0 0)) o) 16 0 0 (σ 16 0 0 + 1)) 40 = x_cn σ 40 + 1 := by
          refine (x_cn_congr (σ' := z_up σ 8 (z_ix o) 0 1) 40 (fun i _ => ?_)).trans ?_
          · simp [z_at]
          · rw [x_cn_up h8 40, if_pos hl]
        have e16 : z_ix (σ 16 0 0) = x_cn σ 40 := by rw [F.1]; exact nI_clamp (by omega)
        refine ⟨?_, fun j hj => ?_⟩
        · rw [e]
          show σ 16 0 0 + 1 = _
          rw [F.1]
          exact nI_1 _
        · rw [e] at hj
          by_cases q : j = x_cn σ 40
          · subst q
            have : z_up (z_up (z_up σ 8 (z_ix o) 0 1) 15 0 (z_ix (σ 16 0 0)) o) 16 0 0 (σ 16 0 0 + 1) 15 0 (x_cn σ 40) = o := by
              simp only [z_at, e16]
              simp
            rw [this]
            exact hv
          · have : z_up (z_up (z_up σ 8 (z_ix o) 0 1) 15 0 (z_ix (σ 16 0 0)) o) 16 0 0 (σ 16 0 0 + 1) 15 0 j = σ 15 0 j := by
              simp only [z_at, e16]
              simp [q]
            rw [this]
            exact F.2 j (by omega)
theorem x_kl_at {o : Nat} {f i' j' : Nat} (h8 : f ≠ 8) (h15 : f ≠ 15) (h16 : f ≠ 16) : ∀ (k i : Nat) (σ : zS), xf_kl o k i σ f i' j' = σ f i' j' := by
  intro k
  induction k with
  | zero => intro i σ; rfl
  | succ k ih =>
    intro i σ
    unfold xf_kl
    split
    · rfl
    · rw [ih, x_keep_at h8 h15 h16]
theorem x_kl_IF {o : Nat} (ho : o < 40) : ∀ (k i : Nat) (σ : zS), i + k = 4 → xI σ → xF σ → xI (xf_kl o k i σ) ∧ xF (xf_kl o k i σ) := by
  intro k
  induction k with
  | zero => intro i σ _ I F; exact ⟨I, F⟩
  | succ k ih =>
    intro i σ hk I F
    unfold xf_kl
    split
    · exact ⟨I, F⟩
    · exact ih (i + 1) _ (by omega) (x_keep_I I) (x_keep_F F (I.2.2.2.2.1 o ho i (by omega)))
theorem x_kfo_IF {σ : zS} {o : Int32} (ho : vp_in o 40) (I : xI σ) (F : xF σ) : xI (xf_keepFieldsOf σ o) ∧ xF (xf_keepFieldsOf σ o) := x_kl_IF (z_vlt ho) 4 0 σ rfl I F
theorem x_k0_I : ∀ (k i : Nat) (σ : zS), xI σ → xI (xf_k0 k i σ) := by
  intro k
  induction k with
  | zero => intro i σ I; exact I
  | succ k ih => intro i σ I; exact ih _ _ (xI_u8 I)
theorem x_k0_at {f i' j' : Nat} (h8 : f ≠ 8) : ∀ (k i : Nat) (σ : zS), xf_k0 k i σ f i' j' = σ f i' j' := by
  intro k
  induction k with
  | zero => intro i σ; rfl
  | succ k ih =>
    intro i σ
    unfold xf_k0
    rw [ih]
    simp [z_at, h8]
theorem x_k0_8 : ∀ (k i : Nat) (σ : zS) (a : Nat), xf_k0 k i σ 8 a 0 = if i ≤ a ∧ a < i + k then 0 else σ 8 a 0 := by
  intro k
  induction k with
  | zero => intro i σ a; rw [if_neg (by omega)]; rfl
  | succ k ih =>
    intro i σ a
    unfold xf_k0
    rw [ih]
    simp only [z_at]
    by_cases h : a = i
    · subst h
      rw [if_neg (by omega), if_pos (by simp), if_pos (by omega)]
    · by_cases h2 : i + 1 ≤ a ∧ a < i + 1 + k
      · rw [if_pos h2, if_pos (by omega)]
      · rw [if_neg h2, if_neg (by simp [h]), if_neg (by omega)]
theorem x_k0_F {σ : zS} : xF (xf_k0 40 0 (z_up σ 16 0 0 0)) := by
  have e : ∀ k, k ≤ 40 → x_cn (xf_k0 40 0 (z_up σ 16 0 0 0)) k = 0 := by
    intro k
    induction k with
    | zero => intro _; rfl
    | succ k ih =>
      intro hk
      unfold x_cn
      have h8 : xf_k0 40 0 (z_up σ 16 0 0 0) 8 k 0 = 0 := by rw [x_k0_8, if_pos ⟨Nat.zero_le _, by omega⟩]
      rw [ih (by omega), if_pos h8]
  unfold xF
  rw [e 40 (by omega)]
  refine ⟨?_, fun j hj => by omega⟩
  rw [x_k0_at (by decide)]
  rfl
theorem x_k1_IF : ∀ (k i : Nat) (σ : zS), i + k = 4 → xI σ → xF σ → xI (xf_k1 k i σ) ∧ xF (xf_k1 k i σ) := by
  intro k
  induction k with
  | zero => intro i σ _ I F; exact ⟨I, F⟩
  | succ k ih => intro i σ hk I F; exact ih (i + 1) _ (by omega) (x_keep_I I) (x_keep_F F (I.2.2.2.2.2.2.2.2.1 i (by omega)))
theorem x_k2s_IF {i : Nat} {σ : zS} (hi : i < 40) (I : xI σ) (F : xF σ) : xI (if σ 6 i 0 = -1 then σ else if σ 6 i 0 = 0 then σ else xf_keepFieldsOf σ (nI i)) ∧ xF (if σ 6 i 0 = -1 then σ else if σ 6 i 0 = 0 then σ else xf_keepFieldsOf σ (nI i)) := by
  split
  · exact ⟨I, F⟩
  · split
    · exact ⟨I, F⟩
    · exact x_kfo_IF (vp_in_nI hi (by decide)) I F
theorem x_k2_IF : ∀ (k i : Nat) (σ : zS), i + k = 40 → xI σ → xF σ → xI (xf_k2 k i σ) ∧ xF (xf_k2 k i σ) := by
  intro k
  induction k with
  | zero => intro i σ _ I F; exact ⟨I, F⟩
  | succ k ih =>
    intro i σ hk I F
    have h := x_k2s_IF (i := i) (by omega) I F
    exact ih (i + 1) _ (by omega) h.1 h.2
theorem x_found {σ : zS} {i : Nat} (F : xF σ) (h : ¬ σ 16 0 0 ≤ nI i) (hi : i < 2 ^ 31) : vp_in (σ 15 0 i) 40 := by
  refine F.2 i ?_
  rw [F.1] at h
  have hl := x_cn_le (σ := σ) 40
  exact Nat.lt_of_not_le fun q => h ((nI_leI (by omega) hi).mpr q)
theorem x_k3_IF : ∀ (k i : Nat) (σ : zS), i + k = 40 → xI σ → xF σ → xI (xf_k3 k i σ) ∧ xF (xf_k3 k i σ) := by
  intro k
  induction k with
  | zero => intro i σ _ I F; exact ⟨I, F⟩
  | succ k ih =>
    intro i σ hk I F
    unfold xf_k3
    split
    · exact ⟨I, F⟩
    · rename_i h
      have h2 := x_kfo_IF (x_found F h (by omega)) I F
      exact ih (i + 1) _ (by omega) h2.1 h2.2
theorem x_findKept_IF {σ : zS} (I : xI σ) : xI (xf_findKept σ) ∧ xF (xf_findKept σ) := by
  have h0 := x_k0_I 40 0 _ (xI_u16 (v := 0) I)
  have h1 := x_k1_IF 4 0 _ rfl h0 x_k0_F
  have h2 := x_k2_IF 40 0 _ rfl h1.1 h1.2
  exact x_k3_IF 40 0 _ rfl h2.1 h2.2
-- what goes
theorem x_drop_I {σ : zS} {o : Int32} (I : xI σ) : xI (xf_drop σ o) := xI_u18 (xI_u6 (xI_u1 I) (Or.inl rfl))
theorem x_es_I {s : Int32} : ∀ (k i : Nat) (σ : zS), xI σ → xI (xf_es s k i σ) := by
  intro k
  induction k with
  | zero => intro i σ I; exact I
  | succ k ih =>
    intro i σ I
    unfold xf_es
    refine ih _ _ ?_
    split
    · exact x_drop_I I
    · exact I
theorem x_emptyScope_I {σ : zS} {s : Int32} (I : xI σ) : xI (xf_emptyScope σ s) := xI_u4 (xI_u3 (x_es_I 40 0 σ I) (vp_in_nI (n := 0) (by decide) (by decide)))
theorem x_dropEntry_I {σ : zS} {s : Int32} (I : xI σ) : xI (xf_dropEntry σ s) := by
  unfold xf_dropEntry
  split
  · exact x_emptyScope_I (xI_u2 I)
  · exact xI_u2 I
theorem x_co_I : ∀ (k i : Nat) (σ : zS), xI σ → xI (xf_co k i σ) := by
  intro k
  induction k with
  | zero => intro i σ I; exact I
  | succ k ih =>
    intro i σ I
    unfold xf_co
    refine ih _ _ ?_
    split
    · split
      · exact x_drop_I I
      · exact I
    · exact I
theorem x_thr {t : Int32} (h : ¬ xf_isThread t = 0) : vp_in t 4 := by
  unfold xf_isThread at h
  split at h
  · exact absurd rfl h
  · split at h
    · exact absurd rfl h
    · rename_i h1 h2
      exact z_vin h1 h2 rfl
theorem x_begun_thr {σ : zS} {t : Int32} (h : ¬ xf_isBegun σ t = 0) : vp_in t 4 := by
  unfold xf_isBegun at h
  split at h
  · exact absurd rfl h
  · rename_i h1
    exact x_thr h1
theorem x_begun_len {σ : zS} {t : Int32} (h : ¬ xf_isBegun σ t = 0) : ¬ σ 12 (z_ix t) 0 ≤ 0 := by
  unfold xf_isBegun at h
  split at h
  · exact absurd rfl h
  · split at h
    · exact absurd rfl h
    · assumption
theorem x_obj {σ : zS} {o : Int32} (h : ¬ xf_isObject σ o = 0) : vp_in o 40 := by
  unfold xf_isObject at h
  split at h
  · exact absurd rfl h
  · split at h
    · exact absurd rfl h
    · rename_i h1 h2
      exact z_vin h1 h2 rfl
theorem x_obj_area {σ : zS} {o : Int32} (h : ¬ xf_isObject σ o = 0) : ¬ σ 6 (z_ix o) 0 = -1 := by
  unfold xf_isObject at h
  split at h
  · exact absurd rfl h
  · split at h
    · exact absurd rfl h
    · split at h
      · exact absurd rfl h
      · assumption
theorem x_objN {σ : zS} {o : Int32} (h : ¬ xf_isObjectOrNull σ o = 0) : z_o 40 o := by
  unfold xf_isObjectOrNull at h
  split at h
  · exact Or.inl (by assumption)
  · split at h
    · exact absurd rfl h
    · rename_i h1
      exact Or.inr (x_obj h1)
theorem x_area_in {σ : zS} {a : Int32} (I : xI σ) (h : ¬ xf_isArea σ a = 0) : vp_in a 10 := by
  unfold xf_isArea at h
  split at h
  · exact absurd rfl h
  · split at h
    · exact absurd rfl h
    · rename_i h1 h2
      exact z_area I.1 h1 h2
theorem x_scope_in {σ : zS} {a : Int32} (I : xI σ) (h : ¬ xf_isScope σ a = 0) : vp_in a 10 := by
  unfold xf_isScope at h
  split at h
  · exact absurd rfl h
  · split at h
    · exact absurd rfl h
    · rename_i h1
      exact x_area_in I h1
theorem x_hasF {σ : zS} {o f : Int32} (h : ¬ xf_hasField σ o f = 0) : ¬ xf_isObject σ o = 0 := by
  unfold xf_hasField at h
  split at h
  · exact absurd rfl h
  · assumption
theorem x_hasF_f {σ : zS} {o f : Int32} (I : xI σ) (h : ¬ xf_hasField σ o f = 0) : vp_in f 4 := by
  have ho := x_obj (x_hasF h)
  have h7 := I.2.2.2.1 (z_ix o) (z_vlt ho)
  unfold xf_hasField at h
  split at h
  · exact absurd rfl h
  · split at h
    · exact absurd rfl h
    · split at h
      · exact absurd rfl h
      · rename_i h1 h2
        rw [vp_in_iff] at h7 ⊢
        rw [Int32.lt_iff_toInt_lt, Int32.toInt_zero] at h1
        rw [Int32.le_iff_toInt_le] at h2
        omega
theorem x_ge2 {a : Int32} (h : z_o 10 a) (h2 : ¬ a < 2) : vp_in a 10 := by
  refine z_ovin h (fun q => h2 ?_)
  rw [q]
  decide
/-- the code's own order of the tests: what is no object lies in no area, so it is not kept -/
theorem x_keep_eq {σ : zS} {o : Int32} (ho : z_o 40 o) : xf_keep σ o = if xf_isObject σ o = 0 then σ else if ¬ σ 6 (z_ix o) 0 = 0 then σ else if ¬ σ 8 (z_ix o) 0 = 0 then σ else z_up (z_up (z_up σ 8 (z_ix o) 0 1) 15 0 (z_ix (σ 16 0 0)) o) 16 0 0 (σ 16 0 0 + 1) := by
  unfold xf_keep
  by_cases h : xf_isObject σ o = 0
  · rw [if_pos h]
    by_cases h1 : o = -1
    · rw [if_pos h1]
    · rw [if_neg h1]
      have hv := z_ovin ho h1
      have h2 : σ 6 (z_ix o) 0 = -1 := by
        unfold xf_isObject at h
        rw [vp_in_iff] at hv
        rw [if_neg (by rw [Int32.lt_iff_toInt_lt, Int32.toInt_zero]; omega), if_neg (by rw [Int32.le_iff_toInt_le]; have e : (40 : Int32).toInt = 40 := rfl; omega)] at h
        by_cases q : σ 6 (z_ix o) 0 = -1
        · exact q
        · rw [if_neg q] at h
          exact absurd h (by decide)
      rw [if_pos (by rw [h2]; decide)]
  · rw [if_neg h]
    have h1 : ¬ o = -1 := by
      intro q
      have hv := x_obj h
      rw [q] at hv
      exact hv (Or.inl (by decide))
    rw [if_neg h1]
theorem x_keep_lt {σ : zS} {o : Int32} (F : xF σ) (ho : vp_in o 40) (h : σ 8 (z_ix o) 0 = 0) : σ 16 0 0 < 40 := by
  have h1 := x_keep_in F ho h
  rw [vp_in_iff] at h1
  rw [Int32.lt_iff_toInt_lt]
  have e : (40 : Int32).toInt = 40 := rfl
  omega
