theorem l_fr {σ ρ : zS} (R : zRel σ ρ) (I : xI σ) : ∀ (k i : Nat), i + k = 40 → mf_fr ρ k i = if xf_lf σ k i = -1 then 40 else xf_lf σ k i := by
  intro k
  induction k with
  | zero =>
    intro i hi
    obtain rfl : i = 40 := by omega
    rfl
  | succ k ih =>
    intro i hi
    unfold mf_fr xf_lf
    rw [R.r5 i (by omega)]
    have h1 := z_olt (I.2.2.1 i (by omega))
    by_cases h : σ 6 i 0 = -1
    · rw [if_pos (h1.mpr h), if_pos h, if_neg]
      intro q
      have := congrArg Int32.toInt q
      rw [nI_toInt (by omega)] at this
      have e : (-1 : Int32).toInt = -1 := rfl
      omega
    · rw [if_neg (fun q => h (h1.mp q)), if_neg h]
      exact ih (i + 1) (by omega)
theorem x_lf_free {σ : zS} : ∀ (k i : Nat), i + k = 40 → ¬ xf_lf σ k i = -1 → σ 6 (z_ix (xf_lf σ k i)) 0 = -1 := by
  intro k
  induction k with
  | zero => intro i _ h; exact absurd rfl h
  | succ k ih =>
    intro i hi h
    unfold xf_lf at h ⊢
    by_cases h1 : σ 6 i 0 = -1
    · rw [if_pos h1, show z_ix (nI i) = i from nI_clamp (by omega)]
      exact h1
    · rw [if_neg h1] at h ⊢
      exact ih (i + 1) (by omega) h
theorem l_current {σ ρ : zS} (R : zRel σ ρ) {t : Int32} (ht : vp_in t 4) (hl : vp_in (xf_top σ (z_ix t)) 12) : mf_current ρ t = xf_currentArea σ (z_ix t) := by
  unfold mf_current xf_currentArea
  rw [R.r11 _ (z_vlt ht), m_ct]
  have e : σ 12 (z_ix t) 0 - 1 = xf_top σ (z_ix t) := rfl
  rw [e, m_ixv ht hl, R.r12 _ (z_vlt ht) _ (z_vlt hl)]
theorem x_fill_f {σ : zS} {i f : Nat} {a c : Int32} (h5 : f ≠ 5) (h6 : f ≠ 6) (h7 : f ≠ 7) : xf_fill σ i a c f = σ f := by
  funext i' j'
  exact x_fill_at h5 h6 h7
theorem x_fill_6 {σ : zS} {i i' : Nat} {a c : Int32} : xf_fill σ i a c 6 i' 0 = if i' = i then a else σ 6 i' 0 := by
  unfold xf_fill
  rw [x_ff_at (by decide)]
  simp [z_at]
theorem x_fill_7 {σ : zS} {i i' : Nat} {a c : Int32} : xf_fill σ i a c 7 i' 0 = if i' = i then c else σ 7 i' 0 := by
  unfold xf_fill
  rw [x_ff_at (by decide)]
  simp [z_at]
theorem s_make {σ ρ : zS} (O : zOk σ ρ) {t f : Int32} : zEq (xf_make σ t f) (mf_make ρ t f) := by
  obtain ⟨I, J, R⟩ := id O
  unfold xf_make mf_make
  simp only [l_idle R]
  by_cases h1 : xf_isBegun σ t = 0
  · simp only [h1, not_true_eq_false, if_true, if_false]; exact ⟨rfl, O⟩
  · have ht := x_begun_thr h1
    have ht4 : z_ix t < 4 := z_vlt ht
    have htop := x_top_in I ht4 (x_begun_len h1)
    simp only [h1, not_false_eq_true, if_true, if_false]
    by_cases h2 : f < 0
    · simp only [h2, if_true]; exact ⟨rfl, O⟩
    · simp only [h2, if_false]
      by_cases h3 : f ≤ 4
      · simp only [h3, if_true]
        have hfv : vp_in f 5 := z_vin3 h2 h3 rfl
        obtain ⟨F, hF, eF⟩ := vp_in_of hfv (by decide)
        rw [l_current R ht htop]
        have hfree : mf_free ρ = if xf_leastFreeNumber σ = -1 then 40 else xf_leastFreeNumber σ := l_fr R I 40 0 rfl
        rw [hfree]
        by_cases h4 : xf_leastFreeNumber σ = -1
        · simp only [h4, if_true]; exact ⟨rfl, O⟩
        · have hov := x_lf_in h4
          obtain ⟨ko, hko, eo⟩ := vp_in_of hov (by decide)
          have hoi : z_ix (xf_leastFreeNumber σ) = ko := by rw [eo]; exact nI_clamp (by omega)
          have hofree : σ 6 ko 0 = -1 := by rw [← hoi]; exact x_lf_free 40 0 rfl h4
          have h40 : ¬ xf_leastFreeNumber σ = 40 := fun q => by
            rw [eo] at q
            have := (nI_eq (b := 40) (by omega) (by decide)).mp q
            omega
          simp only [h4, if_false, h40]
          -- the current area
          have hjt : z_ix (xf_top σ (z_ix t)) < z_ix (σ 12 (z_ix t) 0) := by
            obtain ⟨v, hv, e⟩ := (x_in_top I ht4).resolve_left (fun q => by rw [q] at htop; exact absurd htop (by unfold vp_in; decide))
            rw [e, show z_ix (nI v) = v from nI_clamp (by have := x_len12 I ht4; omega)]
            exact hv
          have hav : vp_in (xf_currentArea σ (z_ix t)) 10 := I.2.2.2.2.2.2.2.1 _ ht4 _ (z_vlt htop)
          have halt : xf_currentArea σ (z_ix t) < σ 17 0 0 := J.2.2.2.2.2.2.2.2.2.2 _ ht4 _ (z_vlt htop)
          have halive : ¬ xf_currentArea σ (z_ix t) < 2 → ¬ σ 2 (z_ix (xf_currentArea σ (z_ix t))) 0 = 0 := fun q => x_step_live I J.2.2.2.2.1 J.2.2.2.2.2.1 ht4 hjt q
          generalize xf_currentArea σ (z_ix t) = a at hav halt halive ⊢
          obtain ⟨ka, hka, ea⟩ := vp_in_of hav (by decide)
          have hai : z_ix a = ka := by rw [ea]; exact nI_clamp (by omega)
          rw [l_used R I J hav, hai, R.r1 _ hka]
          have hU := J.1 ka hka
          have hUle := x_us_le (σ := σ) I (b := nI ka) 40 (by omega)
          have hSv := J.2.1 ka hka
          obtain ⟨S, hS, eS⟩ := vp_in_of hSv (by decide)
          have cond : σ 1 ka 0 + 1 + f ≤ σ 0 ka 0 ↔ 1 + f ≤ xf_free σ ka := by
            unfold xf_free
            rw [hU, eS, eF, show (1 : Int32) = nI 1 from rfl, nI_add, nI_add, nI_add, nI_leI (by omega) (by omega), Int32.le_iff_toInt_le, pk_sub_toInt (by omega) (by omega), nI_toInt (by omega)]
            omega
          by_cases h5 : 1 + f ≤ xf_free σ ka
          · rw [if_pos h5, if_pos (cond.mpr h5)]
            rw [hoi]
            have ha1 : ¬ a = -1 := fun q => by rw [q] at hav; exact absurd hav (by unfold vp_in; decide)
            -- reads of the new state
            generalize hτ : z_up (z_up (xf_fill σ ko a f) 1 ka 0 (σ 1 ka 0 + (1 + f))) 18 0 0 (σ 18 0 0 + 1) = τ
            have tf : ∀ g, g ≠ 1 → g ≠ 5 → g ≠ 6 → g ≠ 7 → g ≠ 18 → τ g = σ g := fun g b1 b5 b6 b7 b18 => by rw [← hτ, z_f b18, z_f b1, x_fill_f b5 b6 b7]
            have t6 : ∀ i, τ 6 i 0 = if i = ko then a else σ 6 i 0 := fun i => by rw [← hτ, z_f (by decide), z_f (by decide), x_fill_6]
            have t7 : ∀ i, τ 7 i 0 = if i = ko then f else σ 7 i 0 := fun i => by rw [← hτ, z_f (by decide), z_f (by decide), x_fill_7]
            have t1 : ∀ i, τ 1 i 0 = if i = ka then σ 1 ka 0 + (1 + f) else σ 1 i 0 := fun i => by
              rw [← hτ, z_f (by decide), z_at]
              by_cases q : i = ka
              · rw [if_pos ⟨rfl, q, rfl⟩, if_pos q]
              · rw [if_neg (fun p => q p.2.1), if_neg q, x_fill_1]
            have t18 : τ 18 0 0 = σ 18 0 0 + 1 := by rw [← hτ, z_at, if_pos ⟨rfl, rfl, rfl⟩]
            have hFz : z_ix f = F := by rw [eF]; exact nI_clamp (by omega)
            refine ⟨rfl, ?_, ?_, ?_⟩
            · rw [← hτ]
              exact xI_u18 (xI_u1 (xI_u5 (xI_u5 (xI_u5 (xI_u5 (xI_u7 (xI_u6 I (Or.inr hav)) hfv) (Or.inl rfl)) (Or.inl rfl)) (Or.inl rfl)) (Or.inl rfl)))
            · show zJ τ
              obtain ⟨a1, a2, a3, a4, a5, a6, a7, a8, a9, a10⟩ := J
              have n9 := tf 9 (by decide) (by decide) (by decide) (by decide) (by decide)
              have n10 := tf 10 (by decide) (by decide) (by decide) (by decide) (by decide)
              have n11 := tf 11 (by decide) (by decide) (by decide) (by decide) (by decide)
              have n12 := tf 12 (by decide) (by decide) (by decide) (by decide) (by decide)
              have n2 := tf 2 (by decide) (by decide) (by decide) (by decide) (by decide)
              have n3 := tf 3 (by decide) (by decide) (by decide) (by decide) (by decide)
              have n0 := tf 0 (by decide) (by decide) (by decide) (by decide) (by decide)
              have n4 := tf 4 (by decide) (by decide) (by decide) (by decide) (by decide)
              have n17 := tf 17 (by decide) (by decide) (by decide) (by decide) (by decide)
              have us := fun x (hx : x < 10) => x_us_add (σ := σ) (τ := τ) (o := ko) (a := a) (b := nI x) (fun q => by have := congrArg Int32.toInt q; rw [nI_toInt (by omega)] at this; have e : (-1 : Int32).toInt = -1 := rfl; omega) hofree (by rw [t6, if_pos rfl]) (fun i hi => by rw [t6, if_neg hi]) (fun i hi => by rw [t7, if_neg hi]) 40
              refine ⟨fun x hx => ?_, fun x hx => ?_, ?_, ?_, fun x hx => ?_, ?_, ?_, ?_, ?_, ?_, ?_⟩
              · rw [t1, us x hx, t7, if_pos rfl, hFz]
                by_cases q : x = ka
                · subst q
                  rw [if_pos rfl, if_pos ⟨hko, ea⟩, a1 x hx, eF, show (1 : Int32) = nI 1 from rfl, nI_add, nI_add]
                · rw [if_neg q, if_neg (fun p => q ((nI_eq (by omega) (by omega)).mp (p.2.symm.trans ea))), a1 x hx]
                  rfl
              · rw [n0]; exact a2 x hx
              · unfold jO
                rw [t18, x_ob_add hofree (by rw [t6, if_pos rfl]; exact ha1) (fun i hi => by rw [t6, if_neg hi]) 40, if_pos hko, a3]
                exact nI_1 _
              · unfold jV; rw [n12, n10]; exact a4
              · rw [n2, x_es4_c n9 n11 n12]; exact a5 x hx
              · unfold jN; rw [n12, n9, n11]; exact a6
              · unfold jP; rw [n12, n9, n11, n3]; exact a7
              · intro i hi
                rw [t6, n2]
                by_cases q : i = ko
                · rw [if_pos q]; exact halive
                · rw [if_neg q]; exact a8 i hi
              · unfold jQ; rw [n4]; exact a9
              · intro i hi
                rw [t6, n17]
                by_cases q : i = ko
                · rw [if_pos q]; exact halt
                · rw [if_neg q]; exact a10.1 i hi
              · rw [n9, n17]; exact a10.2
            · rw [← hτ]
              refine q_x18 (q_x1 ?_)
              have hm : mf_ff (xf_leastFreeNumber σ) 4 0 (z_up (z_up ρ 5 0 ko a) 6 0 ko f) = z_up (z_up (z_up (z_up (z_up (z_up ρ 5 0 ko a) 6 0 ko f) 7 0 (ko * 4 + 0) (-1)) 7 0 (ko * 4 + 1) (-1)) 7 0 (ko * 4 + 2) (-1)) 7 0 (ko * 4 + 3) (-1) := by
                have ix : ∀ j, j < 4 → z_ix (xf_leastFreeNumber σ * 4 + nI j) = ko * 4 + j := fun j hj => by
                  rw [m_ixv4 hov (vp_in_nI hj (by decide)), hoi, show z_ix (nI j) = j from nI_clamp (by omega)]
                unfold mf_ff mf_ff mf_ff mf_ff mf_ff
                rw [ix 0 (by decide), ix 1 (by decide), ix 2 (by decide), ix 3 (by decide)]
              show zRel _ (mf_ff (xf_leastFreeNumber σ) 4 0 (z_up (z_up ρ 5 0 ko a) 6 0 ko f))
              rw [hm]
              exact q_field (by decide) (q_field (by decide) (q_field (by decide) (q_field (by decide) (q_width (q_area R)))))
          · rw [if_neg h5, if_neg (fun q => h5 (cond.mp q))]; exact ⟨rfl, O⟩
      · simp only [h3, if_false]; exact ⟨rfl, O⟩
