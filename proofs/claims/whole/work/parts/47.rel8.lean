-- all of J but what it says of the objects' areas
def zJ0 (σ : zS) : Prop := jU σ ∧ jS σ ∧ jO σ ∧ jV σ ∧ jE σ ∧ jN σ ∧ jP σ ∧ jQ σ ∧ jB σ
theorem zJ.to0 {σ : zS} (J : zJ σ) : zJ0 σ := ⟨J.1, J.2.1, J.2.2.1, J.2.2.2.1, J.2.2.2.2.1, J.2.2.2.2.2.1, J.2.2.2.2.2.2.1, J.2.2.2.2.2.2.2.2.1, J.2.2.2.2.2.2.2.2.2⟩
theorem zJ0.with {σ : zS} (J : zJ0 σ) (A : jA σ) : zJ σ := ⟨J.1, J.2.1, J.2.2.1, J.2.2.2.1, J.2.2.2.2.1, J.2.2.2.2.2.1, J.2.2.2.2.2.2.1, A, J.2.2.2.2.2.2.2.1, J.2.2.2.2.2.2.2.2⟩
theorem nI_ne1 {x : Nat} (h : x < 2 ^ 31) : ¬ nI x = -1 := fun q => by
  have := congrArg Int32.toInt q
  rw [nI_toInt h] at this
  have e : (-1 : Int32).toInt = -1 := rfl
  omega
-- an object goes
theorem d_drop {σ ρ : zS} (I : xI σ) (J : zJ0 σ) (R : zRel σ ρ) {k : Nat} (hk : k < 40) (hv : vp_in (σ 6 k 0) 10) : xI (xf_drop σ (nI k)) ∧ zJ0 (xf_drop σ (nI k)) ∧ zRel (xf_drop σ (nI k)) (z_up ρ 5 0 k (-1)) ∧ (∀ i, xf_drop σ (nI k) 6 i 0 = if i = k then -1 else σ 6 i 0) ∧ xf_drop σ (nI k) 18 0 0 = σ 18 0 0 - 1 := by
  have hz : z_ix (nI k) = k := nI_clamp (by omega)
  have hτ : xf_drop σ (nI k) = z_up (z_up (z_up σ 1 (z_ix (σ 6 k 0)) 0 (σ 1 (z_ix (σ 6 k 0)) 0 - (1 + σ 7 k 0))) 6 k 0 (-1)) 18 0 0 (σ 18 0 0 - 1) := by
    unfold xf_drop
    rw [hz]
  rw [hτ]
  obtain ⟨ka, hka, ea⟩ := vp_in_of hv (by decide)
  have hai : z_ix (σ 6 k 0) = ka := by rw [ea]; exact nI_clamp (by omega)
  rw [hai]
  obtain ⟨w, hw, ew⟩ := vp_in_of (I.2.2.2.1 k hk) (by decide)
  have hwi : z_ix (σ 7 k 0) = w := by rw [ew]; exact nI_clamp (by omega)
  generalize hτ2 : z_up (z_up (z_up σ 1 ka 0 (σ 1 ka 0 - (1 + σ 7 k 0))) 6 k 0 (-1)) 18 0 0 (σ 18 0 0 - 1) = τ
  have tf : ∀ g, g ≠ 1 → g ≠ 6 → g ≠ 18 → τ g = σ g := fun g b1 b6 b18 => by rw [← hτ2, z_f b18, z_f b6, z_f b1]
  have t6 : ∀ i, τ 6 i 0 = if i = k then -1 else σ 6 i 0 := fun i => by
    rw [← hτ2, z_f (by decide), z_at]
    by_cases q : i = k
    · rw [if_pos ⟨rfl, q, rfl⟩, if_pos q]
    · rw [if_neg (fun p => q p.2.1), if_neg q, z_f (by decide)]
  have t1 : ∀ i, τ 1 i 0 = if i = ka then σ 1 ka 0 - (1 + σ 7 k 0) else σ 1 i 0 := fun i => by
    rw [← hτ2, z_f (by decide), z_f (by decide), z_at]
    by_cases q : i = ka
    · rw [if_pos ⟨rfl, q, rfl⟩, if_pos q]
    · rw [if_neg (fun p => q p.2.1), if_neg q]
  have t18 : τ 18 0 0 = σ 18 0 0 - 1 := by rw [← hτ2, z_at, if_pos ⟨rfl, rfl, rfl⟩]
  have t7 := tf 7 (by decide) (by decide) (by decide)
  refine ⟨by rw [← hτ2]; exact xI_u18 (xI_u6 (xI_u1 I) (Or.inl rfl)), ?_, by rw [← hτ2]; exact q_x18 (q_area (q_x1 R)), t6, t18⟩
  obtain ⟨a1, a2, a3, a4, a5, a6, a7, a9, a10⟩ := J
  have n9 := tf 9 (by decide) (by decide) (by decide)
  have n10 := tf 10 (by decide) (by decide) (by decide)
  have n11 := tf 11 (by decide) (by decide) (by decide)
  have n12 := tf 12 (by decide) (by decide) (by decide)
  have n2 := tf 2 (by decide) (by decide) (by decide)
  have n3 := tf 3 (by decide) (by decide) (by decide)
  have n0 := tf 0 (by decide) (by decide) (by decide)
  have n4 := tf 4 (by decide) (by decide) (by decide)
  have n17 := tf 17 (by decide) (by decide) (by decide)
  have us := fun x (hx : x < 10) => x_us_add (σ := τ) (τ := σ) (o := k) (a := nI ka) (b := nI x) (nI_ne1 (by omega)) (by rw [t6, if_pos rfl]) ea (fun i hi => by rw [t6, if_neg hi]) (fun i hi => by rw [t7]) 40
  have ob := x_ob_add (σ := τ) (τ := σ) (o := k) (by rw [t6, if_pos rfl]) (by rw [ea]; exact nI_ne1 (by omega)) (fun i hi => by rw [t6, if_neg hi]) 40
  refine ⟨fun x hx => ?_, fun x hx => ?_, ?_, ?_, fun x hx => ?_, ?_, ?_, ?_, ?_, ?_⟩
  · have h1 := us x hx
    rw [t1]
    by_cases q : x = ka
    · subst q
      rw [if_pos ⟨hk, rfl⟩, hwi] at h1
      rw [if_pos rfl, a1 x hx, h1, ew, show (1 : Int32) = nI 1 from rfl, nI_add, pk_sub (by omega)]
      congr 1
      omega
    · rw [if_neg (fun p => q ((nI_eq (by omega) (by omega)).mp p.2.symm))] at h1
      rw [if_neg q, a1 x hx, h1]
      rfl
  · rw [n0]; exact a2 x hx
  · unfold jO
    rw [if_pos hk] at ob
    rw [t18, a3, ob]
    exact nI_pred _
  · unfold jV; rw [n12, n10]; exact a4
  · rw [n2, x_es4_c n9 n11 n12]; exact a5 x hx
  · unfold jN; rw [n12, n9, n11]; exact a6
  · unfold jP; rw [n12, n9, n11, n3]; exact a7
  · unfold jQ; rw [n4]; exact a9
  · intro i hi
    rw [t6, n17]
    by_cases q : i = k
    · rw [if_pos q]
      have h5 := I.1.2
      rw [Int32.le_iff_toInt_le] at h5
      rw [Int32.lt_iff_toInt_lt]
      have e1 : (-1 : Int32).toInt = -1 := rfl
      have e2 : (2 : Int32).toInt = 2 := rfl
      omega
    · rw [if_neg q]; exact a10.1 i hi
  · rw [n9, n17]; exact a10.2
theorem d_es {z : Int32} (hz : vp_in z 10) : ∀ (k i : Nat) (σ ρ : zS), i + k = 40 → xI σ → zJ0 σ → zRel σ ρ → xI (xf_es z k i σ) ∧ zJ0 (xf_es z k i σ) ∧ zRel (xf_es z k i σ) (mf_em z k i ρ) ∧ ∀ o, xf_es z k i σ 6 o 0 = if i ≤ o ∧ o < 40 ∧ σ 6 o 0 = z then -1 else σ 6 o 0 := by
  intro k
  induction k with
  | zero =>
    intro i σ ρ hi I J R
    exact ⟨I, J, R, fun o => by rw [if_neg (by omega)]; rfl⟩
  | succ k ih =>
    intro i σ ρ hi I J R
    unfold xf_es mf_em
    rw [R.r5 i (by omega)]
    by_cases h : σ 6 i 0 = z
    · rw [if_pos h, if_pos h]
      obtain ⟨I1, J1, R1, h6, -⟩ := d_drop I J R (k := i) (by omega) (by rw [h]; exact hz)
      obtain ⟨I2, J2, R2, h62⟩ := ih (i + 1) _ _ (by omega) I1 J1 R1
      refine ⟨I2, J2, R2, fun o => ?_⟩
      rw [h62, h6]
      by_cases q : o = i
      · subst q
        rw [if_neg (by omega), if_pos rfl, if_pos ⟨Nat.le_refl _, by omega, h⟩]
      · rw [if_neg q]
        by_cases p : i + 1 ≤ o ∧ o < 40 ∧ σ 6 o 0 = z
        · rw [if_pos p, if_pos ⟨by omega, p.2⟩]
        · rw [if_neg p, if_neg (fun r => p ⟨by omega, r.2⟩)]
    · rw [if_neg h, if_neg h]
      obtain ⟨I2, J2, R2, h62⟩ := ih (i + 1) _ _ (by omega) I J R
      refine ⟨I2, J2, R2, fun o => ?_⟩
      rw [h62]
      by_cases p : i + 1 ≤ o ∧ o < 40 ∧ σ 6 o 0 = z
      · rw [if_pos p, if_pos ⟨by omega, p.2⟩]
      · rw [if_neg p, if_neg]
        rintro ⟨r1, r2, r3⟩
        by_cases q : o = i
        · subst q; exact h r3
        · exact p ⟨by omega, r2, r3⟩
-- the last step goes
theorem d_pop {σ σ1 : zS} (I : xI σ) (J : zJ0 σ) {t L : Nat} (ht : t < 4) (hL : L < 12) (e12 : σ 12 t 0 = nI (L + 1)) (hf : ∀ f, f ≠ 2 → f ≠ 12 → σ1 f = σ f) (n12 : ∀ t', σ1 12 t' 0 = if t' = t then nI L else σ 12 t' 0)
    (hE : ∀ k, k < 10 → σ1 2 k 0 = if ¬ σ 11 t L = 0 ∧ σ 9 t L = nI k then σ 2 k 0 - 1 else σ 2 k 0) : zJ0 σ1 := by
  obtain ⟨a1, a2, a3, a4, a5, a6, a7, a9, a10⟩ := J
  have n0 := hf 0 (by decide) (by decide)
  have n1 := hf 1 (by decide) (by decide)
  have n3 := hf 3 (by decide) (by decide)
  have n4 := hf 4 (by decide) (by decide)
  have n6 := hf 6 (by decide) (by decide)
  have n7 := hf 7 (by decide) (by decide)
  have n9 := hf 9 (by decide) (by decide)
  have n10 := hf 10 (by decide) (by decide)
  have n11 := hf 11 (by decide) (by decide)
  have n17 := hf 17 (by decide) (by decide)
  have n18 := hf 18 (by decide) (by decide)
  have hl : z_ix (σ 12 t 0) = L + 1 := by rw [e12]; exact nI_clamp (by omega)
  have hl1 : z_ix (σ1 12 t 0) = L := by rw [n12, if_pos rfl]; exact nI_clamp (by omega)
  have old : ∀ t', t' < 4 → ∀ j, j < z_ix (σ1 12 t' 0) → j < z_ix (σ 12 t' 0) := by
    intro t' _ j hj
    by_cases q : t' = t
    · subst q
      rw [hl1] at hj
      omega
    · rw [n12, if_neg q] at hj
      exact hj
  have es : ∀ x, x_es4 σ x = x_es4 σ1 x + (if ¬ σ 11 t L = 0 ∧ σ 9 t L = x then 1 else 0) := by
    intro x
    refine x_sum4 (f := x_et σ x) (g := x_et σ1 x) ht ?_ (fun t' q => ?_)
    · unfold x_et
      rw [hl, hl1]
      conv => lhs; unfold x_e1
      rw [x_e1_c (σ := σ) (σ' := σ1) L (fun j _ => by rw [n9, n11]; exact ⟨rfl, rfl⟩)]
    · unfold x_et
      rw [n12, if_neg q]
      exact (x_e1_c (σ := σ) (σ' := σ1) _ (fun j _ => by rw [n9, n11]; exact ⟨rfl, rfl⟩)).symm
  refine ⟨fun x hx => ?_, fun x hx => ?_, ?_, ?_, fun x hx => ?_, ?_, ?_, ?_, ?_, ?_⟩
  · rw [n1, x_us_c n6 n7]; exact a1 x hx
  · rw [n0]; exact a2 x hx
  · unfold jO; rw [n18, x_ob_c n6]; exact a3
  · intro t' ht' j hj
    rw [n10]
    exact a4 t' ht' j (old t' ht' j hj)
  · rw [hE x hx]
    have h1 := es (nI x)
    have h2 := a5 x hx
    by_cases q : ¬ σ 11 t L = 0 ∧ σ 9 t L = nI x
    · rw [if_pos q] at h1 ⊢
      rw [h2, h1]
      exact nI_pred _
    · rw [if_neg q] at h1 ⊢
      rw [h2, h1]
      rfl
  · intro t' ht' j hj h2
    rw [n9] at h2 ⊢
    rw [n11]
    exact a6 t' ht' j (old t' ht' j hj) h2
  · intro t' ht' j hj h2 h3
    rw [n11] at h2
    rw [n9, n3] at h3 ⊢
    exact a7 t' ht' j (old t' ht' j hj) h2 h3
  · unfold jQ; rw [n4]; exact a9
  · rw [n6, n17]; exact a10.1
  · rw [n9, n17]; exact a10.2
theorem I_pop {σ : zS} (I : xI σ) {t L : Nat} (hL : L < 12) : xI (z_up σ 12 t 0 (nI L)) := xI_u12 I (vp_in_nI (by omega) (by decide))
theorem s_leave {σ ρ : zS} (O : zOk σ ρ) {t : Int32} : zEq (xf_leave σ t) (mf_leave ρ t) := by
  obtain ⟨I, J, R⟩ := id O
  unfold xf_leave mf_leave
  simp only [l_idle R]
  by_cases h1 : xf_isBegun σ t = 0
  · simp only [h1, not_true_eq_false, if_true, if_false]; exact ⟨rfl, O⟩
  · have ht := x_begun_thr h1
    have ht4 : z_ix t < 4 := z_vlt ht
    have htop := x_top_in I ht4 (x_begun_len h1)
    simp only [h1, not_false_eq_true, if_true, if_false]
    obtain ⟨L, hL, eL⟩ : ∃ L, L < 12 ∧ xf_top σ (z_ix t) = nI L := vp_in_of htop (by decide)
    have hLi : z_ix (xf_top σ (z_ix t)) = L := by rw [eL]; exact nI_clamp (by omega)
    have eL' : σ 12 (z_ix t) 0 - 1 = nI L := eL
    have e12 : σ 12 (z_ix t) 0 = nI (L + 1) := by
      obtain ⟨j, hj, e⟩ : ∃ j, j < 13 ∧ σ 12 (z_ix t) 0 = nI j := vp_in_of (I.2.2.2.2.2.1 _ ht4) (by decide)
      rw [e] at eL' ⊢
      cases j with
      | zero => exact absurd eL' (fun q => nI_ne1 (x := L) (by omega) (q.symm.trans (by decide)))
      | succ j =>
        rw [nI_pred] at eL'
        rw [(nI_eq (by omega) (by omega)).mp eL']
    have hK : z_ix (mf_lvK ρ t) = z_ix t * 12 + L := by
      unfold mf_lvK
      rw [R.r11 _ ht4, eL', m_ixv ht (vp_in_nI hL (by decide)), show z_ix (nI L) = L from nI_clamp (by omega)]
    have hZ : mf_lvZ ρ t = σ 9 (z_ix t) L := by
      unfold mf_lvZ
      rw [hK, R.r12 _ ht4 _ hL]
    have hC : xf_currentArea σ (z_ix t) = σ 9 (z_ix t) L := by
      unfold xf_currentArea
      rw [hLi]
    have hW : xf_topWasEntered σ (z_ix t) = σ 11 (z_ix t) L := by
      unfold xf_topWasEntered
      rw [hLi]
    have hp : xf_pop σ (z_ix t) = z_up σ 12 (z_ix t) 0 (nI L) := by
      unfold xf_pop
      rw [eL']
    -- the shorter row
    have RA : zRel (z_up σ 12 (z_ix t) 0 (nI L)) (mf_lvA ρ t) := by
      unfold mf_lvA
      rw [R.r11 _ ht4, eL']
      by_cases q : nI L = 0
      · rw [if_pos q]
        exact q_len2 (by rw [x_nar0, q]; decide) R
      · rw [if_neg q]
        refine q_len ⟨fun r => absurd r (l_begun9 R h1), fun r => ?_⟩ R
        exfalso
        have h3 := (nI_leI (b := 0) (by omega) (by decide)).mp r
        exact q (by rw [nI_z (by omega)]; omega)
    have A2 : ∀ k, mf_lvA ρ t 2 0 k = ρ 2 0 k := fun k => by
      unfold mf_lvA
      split
      · rw [z_f (by decide), z_f (by decide)]
      · rw [z_f (by decide)]
    have n12 : ∀ t', z_up σ 12 (z_ix t) 0 (nI L) 12 t' 0 = if t' = z_ix t then nI L else σ 12 t' 0 := fun t' => by
      rw [z_at]
      by_cases q : t' = z_ix t
      · rw [if_pos ⟨rfl, q, rfl⟩, if_pos q]
      · rw [if_neg (fun p => q p.2.1), if_neg q]
    rw [hK, R.r14 _ ht4 _ hL, hZ, hC, hW, hp, R.r11 _ ht4]
    refine ⟨rfl, ?_⟩
    show zOk (if σ 11 (z_ix t) L = 0 then _ else _) (if σ 11 (z_ix t) L = 0 then _ else _)
    have hzv : vp_in (σ 9 (z_ix t) L) 10 := I.2.2.2.2.2.2.2.1 _ ht4 _ hL
    by_cases h2 : σ 11 (z_ix t) L = 0
    · rw [if_pos h2, if_pos h2]
      refine ⟨I_pop I hL, zJ0.with (d_pop I J.to0 ht4 hL e12 (fun f _ b => z_f b) n12 (fun k hk => ?_)) ?_, RA⟩
      · rw [if_neg (fun q => q.1 h2), z_f (by decide)]
      · unfold jA
        rw [z_f (by decide), z_f (by decide)]
        exact J.2.2.2.2.2.2.2.1
    · rw [if_neg h2, if_neg h2]
      generalize hz : σ 9 (z_ix t) L = z at hzv
      obtain ⟨kz, hkz, ez⟩ := vp_in_of hzv (by decide)
      have hzi : z_ix z = kz := by rw [ez]; exact nI_clamp (by omega)
      have hlz : z_ix (σ 12 (z_ix t) 0) = L + 1 := by rw [e12]; exact nI_clamp (by omega)
      have hlive : ¬ σ 2 kz 0 = 0 := by
        have := (x_live I J.2.2.2.2.1 hzv).mpr ⟨_, ht4, L, by omega, h2, hz⟩
        rw [hzi] at this
        exact this
      unfold xf_dropEntry mf_lvB
      rw [hZ, hz, hzi, R.r2 _ hkz, show z_up σ 12 (z_ix t) 0 (nI L) 2 kz 0 = σ 2 kz 0 by rw [z_f (by decide)]]
      -- one entry less
      have I1 : xI (z_up (z_up σ 12 (z_ix t) 0 (nI L)) 2 kz 0 (σ 2 kz 0 - 1)) := xI_u2 (I_pop I hL)
      have R1 : zRel (z_up (z_up σ 12 (z_ix t) 0 (nI L)) 2 kz 0 (σ 2 kz 0 - 1)) (z_up (mf_lvA ρ t) 2 0 kz (σ 2 kz 0 - 1)) := by
        refine q_ent (fun _ => ?_) RA
        exact RA.r3 kz hkz (by rw [z_f (by decide)]; exact hlive)
      have J1 : zJ0 (z_up (z_up σ 12 (z_ix t) 0 (nI L)) 2 kz 0 (σ 2 kz 0 - 1)) := by
        refine d_pop I J.to0 ht4 hL e12 (fun f b2 b12 => by rw [z_f b2, z_f b12]) (fun t' => by rw [z_f (by decide)]; exact n12 t') (fun k hk => ?_)
        rw [z_at]
        by_cases q : k = kz
        · subst q
          rw [if_pos ⟨rfl, rfl, rfl⟩, if_pos ⟨h2, by rw [hz, ez]⟩]
        · rw [if_neg (fun p => q p.2.1), if_neg (fun p => q ((nI_eq (by omega) (by omega)).mp (p.2.symm.trans (hz.trans ez)))), z_f (by decide)]
      have f6 : z_up (z_up σ 12 (z_ix t) 0 (nI L)) 2 kz 0 (σ 2 kz 0 - 1) 6 = σ 6 := by rw [z_f (by decide), z_f (by decide)]
      have r2 : ∀ k, z_up (z_up σ 12 (z_ix t) 0 (nI L)) 2 kz 0 (σ 2 kz 0 - 1) 2 k 0 = if k = kz then σ 2 kz 0 - 1 else σ 2 k 0 := fun k => by
        rw [z_at]
        by_cases q : k = kz
        · rw [if_pos ⟨rfl, q, rfl⟩, if_pos q]
        · rw [if_neg (fun p => q p.2.1), if_neg q, z_f (by decide)]
      by_cases h3 : σ 2 kz 0 - 1 = 0
      · rw [if_pos h3, if_pos h3]
        unfold xf_emptyScope mf_empty
        rw [hzi]
        generalize z_up (z_up σ 12 (z_ix t) 0 (nI L)) 2 kz 0 (σ 2 kz 0 - 1) = σ1 at I1 R1 J1 f6 r2 ⊢
        generalize z_up (mf_lvA ρ t) 2 0 kz (σ 2 kz 0 - 1) = ρ1 at R1 ⊢
        obtain ⟨I2, J2, R2, h62⟩ := d_es hzv 40 0 σ1 ρ1 rfl I1 J1 R1
        have k2 : ∀ k, xf_es z 40 0 σ1 2 k 0 = σ1 2 k 0 := fun k => x_es_at (by decide) (by decide) (by decide) 40 0 σ1
        generalize xf_es z 40 0 σ1 = σ2 at I2 J2 R2 h62 k2 ⊢
        generalize mf_em z 40 0 ρ1 = ρ2 at R2 ⊢
        have hz2 : σ2 2 kz 0 = 0 := by rw [k2, r2, if_pos rfl]; exact h3
        refine ⟨xI_u4 (xI_u3 I2 (vp_in_nI (n := 0) (by decide) (by decide))), ?_, q_por (q_parX hz2 R2)⟩
        obtain ⟨a1, a2, a3, a4, a5, a6, a7, a9, a10⟩ := J2
        refine ⟨fun x hx => ?_, a2, ?_, a4, fun x hx => ?_, a6, fun t' ht' j hj b1 b2 => ?_, fun o ho b1 => ?_, fun i hi => ?_, a10⟩
        · rw [x_us_c (σ := σ2) (by rw [z_f (by decide), z_f (by decide)]) (by rw [z_f (by decide), z_f (by decide)]), z_f (by decide), z_f (by decide)]; exact a1 x hx
        · unfold jO; rw [x_ob_c (σ := σ2) (by rw [z_f (by decide), z_f (by decide)])]; exact a3
        · rw [x_es4_c (σ := σ2) (by rw [z_f (by decide), z_f (by decide)]) (by rw [z_f (by decide), z_f (by decide)]) (by rw [z_f (by decide), z_f (by decide)]), z_f (by decide), z_f (by decide)]; exact a5 x hx
        · have hj2 : j < z_ix (σ2 12 t' 0) := hj
          have b1' : ¬ σ2 11 t' j = 0 := b1
          have hav : vp_in (σ2 9 t' j) 10 := I2.2.2.2.2.2.2.2.1 t' ht' j (by have := x_len12 I2 ht'; omega)
          have hlv := (x_live I2 a5 hav).mpr ⟨t', ht', j, hj2, b1', rfl⟩
          have hne : z_ix (σ2 9 t' j) ≠ kz := fun q => by rw [q] at hlv; exact hlv hz2
          have e3 : z_up (z_up σ2 3 kz 0 0) 4 kz 0 (-1) 3 (z_ix (σ2 9 t' j)) 0 = σ2 3 (z_ix (σ2 9 t' j)) 0 := by
            rw [z_f (by decide), z_at, if_neg (fun p => hne p.2.1)]
          have b2' : ¬ z_up (z_up σ2 3 kz 0 0) 4 kz 0 (-1) 3 (z_ix (σ2 9 t' j)) 0 < 2 := b2
          rw [e3] at b2'
          obtain ⟨j', q1, q2⟩ := a7 t' ht' j hj2 b1' b2'
          exact ⟨j', q1, by show σ2 9 t' j' = z_up (z_up σ2 3 kz 0 0) 4 kz 0 (-1) 3 (z_ix (σ2 9 t' j)) 0; rw [e3]; exact q2⟩
        · have b1' : ¬ σ2 6 o 0 < 2 := b1
          show ¬ σ2 2 (z_ix (σ2 6 o 0)) 0 = 0
          rw [h62, f6] at b1' ⊢
          by_cases q : 0 ≤ o ∧ o < 40 ∧ σ 6 o 0 = z
          · rw [if_pos q] at b1'
            exact absurd (by decide) b1'
          · rw [if_neg q] at b1' ⊢
            have hne : z_ix (σ 6 o 0) ≠ kz := fun r => by
              obtain ⟨ko, hko, eo⟩ := vp_in_of (x_ge2 (I.2.2.1 o ho) b1') (by decide)
              rw [eo, show z_ix (nI ko) = ko from nI_clamp (by omega)] at r
              exact q ⟨Nat.zero_le _, ho, by rw [eo, r, ez]⟩
            rw [k2, r2, if_neg hne]
            exact J.2.2.2.2.2.2.2.1 o ho b1'
        · rw [z_at]
          split
          · exact Or.inl rfl
          · exact a9 i hi
      · rw [if_neg h3, if_neg h3]
        refine ⟨I1, zJ0.with J1 (fun o ho b1 => ?_), R1⟩
        rw [f6] at b1 ⊢
        rw [r2]
        split
        · exact h3
        · exact J.2.2.2.2.2.2.2.1 o ho b1
