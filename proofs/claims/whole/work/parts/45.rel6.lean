theorem m_step_2 {ρ : zS} {t a u b v : Int32} {k : Nat} : z_up (mf_step ρ t a u b) 2 0 k v = mf_step (z_up ρ 2 0 k v) t a u b := by
  unfold mf_step
  rw [show z_up ρ 2 0 k v 11 0 (z_ix t) = ρ 11 0 (z_ix t) from rfl]
  rw [z_comm (f := 11) (g := 2) (by decide), z_comm (f := 14) (g := 2) (by decide), z_comm (f := 13) (g := 2) (by decide), z_comm (f := 12) (g := 2) (by decide)]
theorem s_enterR {σ ρ : zS} (O : zOk σ ρ) {t z : Int32} (hb : ¬ xf_isBegun σ t = 0) (hz : ¬ xf_isScope σ z = 0) (hp : ¬ σ 2 (z_ix z) 0 = 0 → σ 3 (z_ix z) 0 = xf_nearestScope σ (z_ix t)) : zEq (xf_enterR σ t z) (mf_enterR ρ t z) := by
  obtain ⟨I, J, R⟩ := id O
  have ht := x_begun_thr hb
  have ht4 : z_ix t < 4 := z_vlt ht
  have hzv := x_scope_in I hz
  have hz10 : z_ix z < 10 := z_vlt hzv
  have h12 := x_len12 I ht4
  unfold xf_enterR mf_enterR
  rw [R.r11 _ ht4, R.r2 _ hz10]
  by_cases h : σ 12 (z_ix t) 0 = 12
  · rw [if_pos h, if_neg (fun q => (x_full I ht4).mp q h)]
    exact ⟨rfl, O⟩
  · have hf := (x_full I ht4).mpr h
    have hl := x_len_in I ht4 hf
    rw [if_neg h, if_pos hf]
    have hns := x_ns_in J.2.2.2.1 ht4 (Nat.le_refl _) h12 12 _ (x_in_top I ht4)
    have hnv : vp_in (xf_nearestScope σ (z_ix t)) 10 := by
      rcases hns with q | ⟨v, hv, q⟩
      · rw [show xf_nearestScope σ (z_ix t) = 0 from q]; exact vp_in_nI (n := 0) (by decide) (by decide)
      · rw [show xf_nearestScope σ (z_ix t) = σ 9 (z_ix t) v from q.symm]; exact I.2.2.2.2.2.2.2.1 _ ht4 _ (by omega)
    -- the state ahead of the step
    have hS : xI (xf_enterS σ t z) ∧ zRel (xf_enterS σ t z) (mf_enterS ρ t z) ∧ xf_enterS σ t z 3 (z_ix z) 0 = xf_nearestScope σ (z_ix t) ∧ mf_enterS ρ t z 3 0 (z_ix z) = xf_nearestScope σ (z_ix t) := by
      unfold xf_enterS mf_enterS
      rw [R.r2 _ hz10, l_nearest R I ht]
      by_cases h0 : σ 2 (z_ix z) 0 = 0
      · rw [if_pos h0, if_pos h0]
        exact ⟨xI_u3 I hnv, q_par hnv R, by simp [z_at], by simp [z_at]⟩
      · rw [if_neg h0, if_neg h0]
        exact ⟨I, R, hp h0, by rw [R.r3 _ hz10 h0]; exact hp h0⟩
    have hSf : ∀ f, f ≠ 3 → xf_enterS σ t z f = σ f := by
      intro f hf3
      unfold xf_enterS
      split
      · exact z_f hf3
      · rfl
    have hT : xf_enterT σ t z = z_up (xf_enterS σ t z) 2 (z_ix z) 0 (σ 2 (z_ix z) 0 + 1) := rfl
    have hTf : ∀ f, f ≠ 2 → f ≠ 3 → f ≠ 13 → xf_enterT σ t z f = σ f := fun f b2 b3 _ => by rw [hT, z_f b2, hSf f b3]
    have hT12 : xf_enterT σ t z 12 = σ 12 := hTf 12 (by decide) (by decide) (by decide)
    have hT3 : xf_enterT σ t z 3 = xf_enterS σ t z 3 := by rw [hT, z_f (by decide)]
    have hzn : ∃ k, k < 10 ∧ z = nI k ∧ z_ix z = k := by
      obtain ⟨k, hk, e⟩ := vp_in_of hzv (by decide)
      exact ⟨k, hk, e, by rw [e]; exact nI_clamp (by omega)⟩
    obtain ⟨kz, hkz, ez, ezi⟩ := hzn
    have hRT : zRel (xf_enterT σ t z) (z_up (mf_enterS ρ t z) 2 0 (z_ix z) (σ 2 (z_ix z) 0 + 1)) := by
      rw [hT]
      exact q_ent (fun _ => by rw [hS.2.2.1, hS.2.2.2]) hS.2.1
    refine ⟨rfl, ?_, ?_, ?_⟩
    · refine I_push (by rw [hT]; exact xI_u2 hS.1) (by rw [hT12]; exact hl) hzv (x_top_o I ht4) (by rw [x_nar1]; rfl)
    · refine J_push (σ1 := xf_enterT σ t z) I J ht4 hl hTf ?_ (fun _ => Or.inl (by rw [x_nar1]; decide)) (fun _ h3 => ?_) (fun t' ht' j hj he => ?_) (fun k hk => ?_) ?_
      · rcases x_in_top I ht4 with q | ⟨v, hv, q⟩
        · exact Or.inl q
        · exact Or.inr ⟨v, hv, q⟩
      · rw [hT3, hS.2.2.1] at h3 ⊢
        rcases hns with q | ⟨v, hv, q⟩
        · exfalso
          rw [show xf_nearestScope σ (z_ix t) = 0 from q] at h3
          exact h3 (by decide)
        · exact ⟨v, hv, q⟩
      · rw [hT3]
        unfold xf_enterS
        by_cases h0 : σ 2 (z_ix z) 0 = 0
        · rw [if_pos h0, z_at, if_neg]
          rintro ⟨-, q, -⟩
          have hav := I.2.2.2.2.2.2.2.1 t' ht' j (by have := x_len12 I ht'; omega)
          have hlive := (x_live I J.2.2.2.2.1 hav).mpr ⟨t', ht', j, hj, he, rfl⟩
          have q' : z_ix (σ 9 t' j) = z_ix z := q
          rw [q'] at hlive
          exact hlive h0
        · rw [if_neg h0]
      · rw [hT, z_at, x_nar1]
        by_cases hkz2 : k = z_ix z
        · subst hkz2
          rw [if_pos ⟨rfl, rfl, rfl⟩, if_pos ⟨by decide, by rw [ezi]; exact ez⟩]
        · rw [if_neg (fun q => hkz2 q.2.1), if_neg, hSf 2 (by decide)]
          · show _ = _ + (0 : Int32)
            rw [Int32.add_zero]
          · rintro ⟨-, q⟩
            rw [ez] at q
            have := (nI_eq (by omega) (by omega)).mp q
            omega
      · have h0 : ¬ z < 0 := fun q => hzv (Or.inl q)
        unfold xf_isScope xf_isArea at hz
        by_cases h2 : z < 2
        · rw [if_pos h2] at hz
          exact absurd rfl hz
        · rw [if_neg h2, if_neg h0] at hz
          by_cases h5 : σ 17 0 0 ≤ z
          · rw [if_pos h5] at hz
            exact absurd rfl hz
          · exact i_nle.mp h5
    · show zRel (xf_push (xf_enterT σ t z) (z_ix t) z (xf_top σ (z_ix t)) 1) (z_up (mf_enterT ρ t z) 2 0 (z_ix z) (σ 2 (z_ix z) 0 + 1))
      unfold mf_enterT
      rw [R.r11 _ ht4, m_step_2]
      refine l_push hRT ht (by rw [hT12]; exact hl) ?_
      have h9 : z_up (mf_enterS ρ t z) 2 0 (z_ix z) (σ 2 (z_ix z) 0 + 1) 9 0 (z_ix t) = ρ 9 0 (z_ix t) := by
        rw [z_f (by decide)]
        unfold mf_enterS
        split
        · rw [z_f (by decide)]
        · rfl
      rw [h9]
      exact l_begun9 R hb
theorem s_enter {σ ρ : zS} (O : zOk σ ρ) {t z : Int32} : zEq (xf_enter σ t z) (mf_enter ρ t z) := by
  obtain ⟨I, J, R⟩ := id O
  unfold xf_enter mf_enter
  simp only [l_idle R, l_noScope R]
  by_cases h1 : xf_isBegun σ t = 0
  · simp only [h1, not_true_eq_false, if_true, if_false]; exact ⟨rfl, O⟩
  · have ht := x_begun_thr h1
    simp only [h1, not_false_eq_true, if_true, if_false]
    by_cases h2 : xf_isScope σ z = 0
    · simp only [h2, not_true_eq_false, if_true, if_false]; exact ⟨rfl, O⟩
    · have hz10 : z_ix z < 10 := z_vlt (x_scope_in I h2)
      simp only [h2, not_false_eq_true, if_true, if_false, l_inView R I ht, R.r2 _ hz10, l_nearest R I ht]
      by_cases h3 : xf_hasInView σ (z_ix t) z = 0
      · simp only [h3, not_true_eq_false, if_true, if_false]
        by_cases h4 : σ 2 (z_ix z) 0 ≤ 0
        · simp only [h4, if_true]
          exact s_enterR O h1 h2 (fun q => absurd ((x_ent_nn I J hz10).mp h4) q)
        · simp only [h4, if_false]
          have h4' : ¬ σ 2 (z_ix z) 0 = 0 := fun q => h4 ((x_ent_nn I J hz10).mpr q)
          rw [R.r3 _ hz10 h4']
          by_cases h5 : σ 3 (z_ix z) 0 = xf_nearestScope σ (z_ix t)
          · simp only [h5, if_true]
            exact s_enterR O h1 h2 (fun _ => h5)
          · simp only [h5, if_false]; exact ⟨rfl, O⟩
      · simp only [h3, not_false_eq_true, if_true, if_false]; exact ⟨rfl, O⟩
-- an object more
theorem x_us_add {σ τ : zS} {o : Nat} {a b : Int32} (hb : ¬ b = -1) (h1 : σ 6 o 0 = -1) (h2 : τ 6 o 0 = a) (h6 : ∀ i, i ≠ o → τ 6 i 0 = σ 6 i 0) (h7 : ∀ i, i ≠ o → τ 7 i 0 = σ 7 i 0) : ∀ k, x_us τ b k = x_us σ b k + (if o < k ∧ a = b then 1 + z_ix (τ 7 o 0) else 0) := by
  intro k
  induction k with
  | zero => simp [x_us]
  | succ k ih =>
    unfold x_us
    rw [ih]
    by_cases hk : k = o
    · subst hk
      have hb' : ¬ (-1 : Int32) = b := fun q => hb q.symm
      rw [h1, h2]
      by_cases hab : a = b
      · simp [hab, hb']
      · simp [hab, hb']
    · rw [h6 k hk, h7 k hk]
      have e : (o < k + 1 ∧ a = b) ↔ (o < k ∧ a = b) := ⟨fun q => ⟨by omega, q.2⟩, fun q => ⟨by omega, q.2⟩⟩
      simp only [e]
      omega
theorem x_ob_add {σ τ : zS} {o : Nat} (h1 : σ 6 o 0 = -1) (h2 : ¬ τ 6 o 0 = -1) (h6 : ∀ i, i ≠ o → τ 6 i 0 = σ 6 i 0) : ∀ k, x_ob τ k = x_ob σ k + (if o < k then 1 else 0) := by
  intro k
  induction k with
  | zero => simp [x_ob]
  | succ k ih =>
    unfold x_ob
    rw [ih]
    by_cases hk : k = o
    · subst hk
      rw [h1, if_neg h2, if_pos rfl, if_neg (by omega), if_pos (by omega)]
    · rw [h6 k hk]
      by_cases hok : o < k
      · rw [if_pos hok, if_pos (show o < k + 1 by omega)]; omega
      · rw [if_neg hok, if_neg (show ¬ o < k + 1 by omega)]; omega
theorem x_us_le {σ : zS} (I : xI σ) {b : Int32} : ∀ k, k ≤ 40 → x_us σ b k ≤ 5 * k := by
  intro k
  induction k with
  | zero => intro _; exact Nat.le_refl _
  | succ k ih =>
    intro hk
    have h1 := ih (by omega)
    have h2 : z_ix (σ 7 k 0) < 5 := z_vlt (I.2.2.2.1 k (by omega))
    unfold x_us
    split <;> omega
theorem x_ob_le {σ : zS} : ∀ k, x_ob σ k ≤ k := by
  intro k
  induction k with
  | zero => exact Nat.le_refl _
  | succ k ih => unfold x_ob; split <;> omega
