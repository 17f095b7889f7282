-- a new last step
theorem x_push_f {σ : zS} {t f : Nat} {a u b : Int32} (h9 : f ≠ 9) (h10 : f ≠ 10) (h11 : f ≠ 11) (h12 : f ≠ 12) : xf_push σ t a u b f = σ f := by
  unfold xf_push
  rw [z_f h12, z_f h11, z_f h10, z_f h9]
theorem x_push_9 {σ : zS} {t t' j : Nat} {a u b : Int32} : xf_push σ t a u b 9 t' j = if t' = t ∧ j = z_ix (σ 12 t 0) then a else σ 9 t' j := by
  unfold xf_push
  simp only [z_at]
  simp
theorem x_push_10 {σ : zS} {t t' j : Nat} {a u b : Int32} : xf_push σ t a u b 10 t' j = if t' = t ∧ j = z_ix (σ 12 t 0) then u else σ 10 t' j := by
  unfold xf_push
  simp only [z_at]
  simp
theorem x_push_11 {σ : zS} {t t' j : Nat} {a u b : Int32} : xf_push σ t a u b 11 t' j = if t' = t ∧ j = z_ix (σ 12 t 0) then vp_nar .boolean b else σ 11 t' j := by
  unfold xf_push
  simp only [z_at]
  simp
theorem x_push_12 {σ : zS} {t t' j : Nat} {a u b : Int32} : xf_push σ t a u b 12 t' j = if t' = t ∧ j = 0 then σ 12 t 0 + 1 else σ 12 t' j := by
  unfold xf_push
  simp only [z_at]
  simp
theorem l_push {σ ρ : zS} (R : zRel σ ρ) {t a u b : Int32} (ht : vp_in t 4) (hl : vp_in (σ 12 (z_ix t) 0) 12) (h9 : ¬ ρ 9 0 (z_ix t) = 0) : zRel (xf_push σ (z_ix t) a u b) (mf_step ρ t a u b) := by
  unfold xf_push mf_step
  rw [R.r11 _ (z_vlt ht), m_ixv ht hl]
  refine q_len ?_ (q_en (z_vlt hl) (q_un (z_vlt hl) (q_at (z_vlt hl) R)))
  constructor
  · intro h
    exact absurd h h9
  · intro h
    exfalso
    obtain ⟨k, hk, e⟩ := vp_in_of hl (by decide)
    have e' : σ 12 (z_ix t) 0 = nI k := e
    rw [e', nI_1] at h
    have := (nI_leI (b := 0) (by omega) (by decide)).mp h
    omega
theorem I_push {σ : zS} (I : xI σ) {t : Nat} {a u b : Int32} (hl : vp_in (σ 12 t 0) 12) (ha : vp_in a 10) (hu : z_o 12 u) (hb : narrow .boolean (.int (vp_nar .boolean b)) = .int (vp_nar .boolean b)) : xI (xf_push σ t a u b) := by
  unfold xf_push
  refine xI_u12 (xI_u11 (xI_u10 (xI_u9 I ha) hu) hb) ?_
  obtain ⟨k, hk, e⟩ := vp_in_of hl (by decide)
  rw [e, nI_1]
  exact vp_in_nI (by omega) (by decide)
theorem x_sum4 {f g : Nat → Nat} {t d : Nat} (ht : t < 4) (h : f t = g t + d) (ho : ∀ t', t' ≠ t → f t' = g t') : f 0 + f 1 + f 2 + f 3 = g 0 + g 1 + g 2 + g 3 + d := by
  match t, ht with
  | 0, _ => have := ho 1 (by decide); have := ho 2 (by decide); have := ho 3 (by decide); omega
  | 1, _ => have := ho 0 (by decide); have := ho 2 (by decide); have := ho 3 (by decide); omega
  | 2, _ => have := ho 0 (by decide); have := ho 1 (by decide); have := ho 3 (by decide); omega
  | 3, _ => have := ho 0 (by decide); have := ho 1 (by decide); have := ho 2 (by decide); omega
theorem J_push {σ σ1 : zS} (I : xI σ) (J : zJ σ) {t : Nat} {a u b : Int32} (ht : t < 4) (hl : vp_in (σ 12 t 0) 12) (hf : ∀ f, f ≠ 2 → f ≠ 3 → f ≠ 13 → σ1 f = σ f)
    (hu : u = -1 ∨ ∃ v, v < z_ix (σ 12 t 0) ∧ u = nI v) (haN : ¬ a < 2 → ¬ vp_nar .boolean b = 0 ∨ ∃ j, j < z_ix (σ 12 t 0) ∧ σ 9 t j = a)
    (hP1 : ¬ vp_nar .boolean b = 0 → ¬ σ1 3 (z_ix a) 0 < 2 → ∃ j, j < z_ix (σ 12 t 0) ∧ σ 9 t j = σ1 3 (z_ix a) 0)
    (hP2 : ∀ t', t' < 4 → ∀ j, j < z_ix (σ 12 t' 0) → ¬ σ 11 t' j = 0 → σ1 3 (z_ix (σ 9 t' j)) 0 = σ 3 (z_ix (σ 9 t' j)) 0)
    (hE : ∀ k, k < 10 → σ1 2 k 0 = σ 2 k 0 + (if ¬ vp_nar .boolean b = 0 ∧ a = nI k then 1 else 0)) (ha : a < σ 17 0 0) : zJ (xf_push σ1 t a u b) := by
  obtain ⟨a1, a2, a3, a4, a5, a6, a7, a8, a9, a10⟩ := id J
  obtain ⟨L, hL, eL⟩ := vp_in_of hl (by decide)
  have hLz : z_ix (σ 12 t 0) = L := by rw [eL]; exact nI_clamp (by omega)
  have e9 := hf 9 (by decide) (by decide) (by decide)
  have e10 := hf 10 (by decide) (by decide) (by decide)
  have e11 := hf 11 (by decide) (by decide) (by decide)
  have e12 := hf 12 (by decide) (by decide) (by decide)
  have pf : ∀ f, f ≠ 9 → f ≠ 10 → f ≠ 11 → f ≠ 12 → f ≠ 2 → f ≠ 3 → f ≠ 13 → xf_push σ1 t a u b f = σ f := fun f b1 b2 b3 b4 b5 b6 b7 => (x_push_f b1 b2 b3 b4).trans (hf f b5 b6 b7)
  have p9 : ∀ t' j, xf_push σ1 t a u b 9 t' j = if t' = t ∧ j = L then a else σ 9 t' j := fun t' j => by rw [x_push_9, e12, hLz, e9]
  have p10 : ∀ t' j, xf_push σ1 t a u b 10 t' j = if t' = t ∧ j = L then u else σ 10 t' j := fun t' j => by rw [x_push_10, e12, hLz, e10]
  have p11 : ∀ t' j, xf_push σ1 t a u b 11 t' j = if t' = t ∧ j = L then vp_nar .boolean b else σ 11 t' j := fun t' j => by rw [x_push_11, e12, hLz, e11]
  have p12 : z_ix (xf_push σ1 t a u b 12 t 0) = L + 1 := by
    rw [x_push_12, if_pos ⟨rfl, rfl⟩, e12, eL, nI_1]
    exact nI_clamp (by omega)
  have p12o : ∀ t', t' ≠ t → xf_push σ1 t a u b 12 t' 0 = σ 12 t' 0 := fun t' h => by rw [x_push_12, if_neg (fun q => h q.1), e12]
  -- a step of the new state is the new one, or an old one
  have cs : ∀ t', t' < 4 → ∀ j, j < z_ix (xf_push σ1 t a u b 12 t' 0) → (t' = t ∧ j = L) ∨ (¬ (t' = t ∧ j = L) ∧ j < z_ix (σ 12 t' 0)) := by
    intro t' ht' j hj
    by_cases h : t' = t
    · subst h
      rw [p12] at hj
      by_cases h2 : j = L
      · exact Or.inl ⟨rfl, h2⟩
      · exact Or.inr ⟨fun q => h2 q.2, by rw [hLz]; omega⟩
    · rw [p12o t' h] at hj
      exact Or.inr ⟨fun q => h q.1, hj⟩
  have old : ∀ t' j, j < L → ¬ (t' = t ∧ j = L) := fun t' j hj q => by omega
  have et : ∀ x, x_et (xf_push σ1 t a u b) x t = x_et σ x t + (if ¬ vp_nar .boolean b = 0 ∧ a = x then 1 else 0) := by
    intro x
    unfold x_et
    rw [p12, hLz]
    conv => lhs; unfold x_e1
    rw [show xf_push σ1 t a u b 9 t L = a by rw [p9, if_pos ⟨rfl, rfl⟩], show xf_push σ1 t a u b 11 t L = vp_nar .boolean b by rw [p11, if_pos ⟨rfl, rfl⟩]]
    rw [x_e1_c L (fun j hj => ⟨by rw [p9, if_neg (old t j hj)], by rw [p11, if_neg (old t j hj)]⟩)]
  have eto : ∀ x t', t' ≠ t → x_et (xf_push σ1 t a u b) x t' = x_et σ x t' := by
    intro x t' h
    unfold x_et
    rw [p12o t' h]
    exact x_e1_c _ (fun j _ => ⟨by rw [p9, if_neg (fun q => h q.1)], by rw [p11, if_neg (fun q => h q.1)]⟩)
  have es : ∀ x, x_es4 (xf_push σ1 t a u b) x = x_es4 σ x + (if ¬ vp_nar .boolean b = 0 ∧ a = x then 1 else 0) := fun x => x_sum4 (f := x_et (xf_push σ1 t a u b) x) (g := x_et σ x) ht (et x) (eto x)
  have p2 : ∀ k, k < 10 → xf_push σ1 t a u b 2 k 0 = nI (x_es4 (xf_push σ1 t a u b) (nI k)) := by
    intro k hk
    rw [x_push_f (by decide) (by decide) (by decide) (by decide), hE k hk, es, a5 k hk]
    split
    · exact nI_1 _
    · show nI _ + 0 = _
      rw [show (0 : Int32) = nI 0 from rfl, nI_add]
  refine ⟨fun x hx => ?_, fun x hx => ?_, ?_, ?_, p2, ?_, ?_, ?_, ?_, ?_, ?_⟩
  · rw [pf 1 (by decide) (by decide) (by decide) (by decide) (by decide) (by decide) (by decide), x_us_c (pf 6 (by decide) (by decide) (by decide) (by decide) (by decide) (by decide) (by decide)) (pf 7 (by decide) (by decide) (by decide) (by decide) (by decide) (by decide) (by decide))]
    exact a1 x hx
  · rw [pf 0 (by decide) (by decide) (by decide) (by decide) (by decide) (by decide) (by decide)]
    exact a2 x hx
  · unfold jO
    rw [pf 18 (by decide) (by decide) (by decide) (by decide) (by decide) (by decide) (by decide), x_ob_c (pf 6 (by decide) (by decide) (by decide) (by decide) (by decide) (by decide) (by decide))]
    exact a3
  · intro t' ht' j hj
    rw [p10]
    rcases cs t' ht' j hj with h | ⟨h, h'⟩
    · rw [if_pos h, h.2, ← hLz]
      exact hu
    · rw [if_neg h]
      exact a4 t' ht' j h'
  · intro t' ht' j hj h2
    rw [p9] at h2 ⊢
    rcases cs t' ht' j hj with h | ⟨h, h'⟩
    · rw [if_pos h] at h2 ⊢
      obtain ⟨rfl, rfl⟩ := h
      rcases haN h2 with h3 | ⟨j0, hj0, h3⟩
      · exact ⟨j, Nat.le_refl _, by rw [p11, if_pos ⟨rfl, rfl⟩]; exact h3, by rw [p9, if_pos ⟨rfl, rfl⟩]⟩
      · obtain ⟨j1, b1, b2, b3⟩ := a6 t' ht j0 hj0 (by rw [h3]; exact h2)
        rw [hLz] at hj0
        exact ⟨j1, by omega, by rw [p11, if_neg (old t' j1 (by omega))]; exact b2, by rw [p9, if_neg (old t' j1 (by omega)), b3, h3]⟩
    · rw [if_neg h] at h2 ⊢
      obtain ⟨j1, b1, b2, b3⟩ := a6 t' ht' j h' h2
      have hne : ¬ (t' = t ∧ j1 = L) := by
        rintro ⟨q1, q2⟩
        subst q1
        rw [hLz] at h'
        omega
      exact ⟨j1, b1, by rw [p11, if_neg hne]; exact b2, by rw [p9, if_neg hne, b3]⟩
  · intro t' ht' j hj h2 h3
    rw [p11] at h2
    rw [p9] at h3 ⊢
    rw [show xf_push σ1 t a u b 3 = σ1 3 from x_push_f (by decide) (by decide) (by decide) (by decide)] at h3 ⊢
    rcases cs t' ht' j hj with h | ⟨h, h'⟩
    · rw [if_pos h] at h2 h3 ⊢
      obtain ⟨rfl, rfl⟩ := h
      obtain ⟨j0, hj0, h4⟩ := hP1 h2 h3
      rw [hLz] at hj0
      exact ⟨j0, hj0, by rw [p9, if_neg (old t' j0 hj0)]; exact h4⟩
    · rw [if_neg h] at h2 h3 ⊢
      rw [hP2 t' ht' j h' h2] at h3 ⊢
      obtain ⟨j0, hj0, h4⟩ := a7 t' ht' j h' h2 h3
      have hne : ¬ (t' = t ∧ j0 = L) := by
        rintro ⟨q1, q2⟩
        subst q1
        rw [hLz] at h'
        omega
      exact ⟨j0, hj0, by rw [p9, if_neg hne]; exact h4⟩
  · intro o ho h2
    rw [pf 6 (by decide) (by decide) (by decide) (by decide) (by decide) (by decide) (by decide)] at h2 ⊢
    have h3 := a8 o ho h2
    have hv := x_ge2 (I.2.2.1 o ho) h2
    obtain ⟨k, hk, e⟩ := vp_in_of hv (by decide)
    have hz : z_ix (σ 6 o 0) = k := by rw [e]; exact nI_clamp (by omega)
    rw [hz] at h3 ⊢
    have hb := x_es4_lt (σ := σ) (a := nI k) I
    rw [a5 k hk, nI_z (by omega)] at h3
    rw [p2 k hk, es, nI_z (by split <;> omega)]
    omega
  · intro i hi
    rw [pf 4 (by decide) (by decide) (by decide) (by decide) (by decide) (by decide) (by decide)]
    exact a9 i hi
  · intro o ho
    rw [pf 6 (by decide) (by decide) (by decide) (by decide) (by decide) (by decide) (by decide), pf 17 (by decide) (by decide) (by decide) (by decide) (by decide) (by decide) (by decide)]
    exact a10.1 o ho
  · intro t' ht' j hj
    rw [p9, pf 17 (by decide) (by decide) (by decide) (by decide) (by decide) (by decide) (by decide)]
    split
    · exact ha
    · exact a10.2 t' ht' j hj
