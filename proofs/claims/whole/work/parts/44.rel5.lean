-- the steps of the view lie in the row
def x_in (L : Nat) (k : Int32) : Prop := k = -1 ∨ ∃ v, v < L ∧ k = nI v
theorem x_in_top {σ : zS} {t : Nat} (I : xI σ) (ht : t < 4) : x_in (z_ix (σ 12 t 0)) (xf_top σ t) := by
  obtain ⟨j, hj, e⟩ := vp_in_of (I.2.2.2.2.2.1 t ht) (by decide)
  unfold xf_top
  rw [e, show z_ix (nI j) = j from nI_clamp (by omega)]
  cases j with
  | zero => exact Or.inl (by decide)
  | succ j => exact Or.inr ⟨j, by omega, nI_pred j⟩
theorem x_in_un {σ : zS} {t L : Nat} {k : Int32} (J : jV σ) (ht : t < 4) (hL : L ≤ z_ix (σ 12 t 0)) (hL2 : L ≤ 12) (h : x_in L k) (h0 : ¬ k = -1) : x_in L (σ 10 t (z_ix k)) := by
  obtain ⟨v, hv, e⟩ := h.resolve_left h0
  rw [e, show z_ix (nI v) = v from nI_clamp (by omega)]
  rcases J t ht v (by omega) with h1 | ⟨w, hw, h1⟩
  · exact Or.inl h1
  · exact Or.inr ⟨w, by omega, h1⟩
theorem x_fw_in {σ : zS} {t L : Nat} {a : Int32} (J : jV σ) (ht : t < 4) (hL : L ≤ z_ix (σ 12 t 0)) (hL2 : L ≤ 12) : ∀ (d : Nat) (k : Int32), x_in L k → xf_fw σ t a d k = -1 ∨ ∃ v, v < L ∧ xf_fw σ t a d k = nI v ∧ σ 9 t v = a := by
  intro d
  induction d with
  | zero => intro k _; exact Or.inl rfl
  | succ d ih =>
    intro k hk
    unfold xf_fw
    by_cases h0 : k = -1
    · rw [if_pos h0]; exact Or.inl rfl
    · rw [if_neg h0]
      by_cases h1 : σ 9 t (z_ix k) = a
      · rw [if_pos h1]
        obtain ⟨v, hv, e⟩ := hk.resolve_left h0
        refine Or.inr ⟨v, hv, e, ?_⟩
        rw [e, show z_ix (nI v) = v from nI_clamp (by omega)] at h1
        exact h1
      · rw [if_neg h1]
        exact ih _ (x_in_un J ht hL hL2 hk h0)
theorem x_ns_in {σ : zS} {t L : Nat} (J : jV σ) (ht : t < 4) (hL : L ≤ z_ix (σ 12 t 0)) (hL2 : L ≤ 12) : ∀ (d : Nat) (k : Int32), x_in L k → xf_ns σ t d k = 0 ∨ ∃ v, v < L ∧ σ 9 t v = xf_ns σ t d k := by
  intro d
  induction d with
  | zero => intro k _; exact Or.inl rfl
  | succ d ih =>
    intro k hk
    unfold xf_ns
    by_cases h0 : k = -1
    · rw [if_pos h0]; exact Or.inl rfl
    · rw [if_neg h0]
      by_cases h1 : σ 9 t (z_ix k) < 2
      · rw [if_pos h1]
        exact ih _ (x_in_un J ht hL hL2 hk h0)
      · rw [if_neg h1]
        obtain ⟨v, hv, e⟩ := hk.resolve_left h0
        refine Or.inr ⟨v, hv, ?_⟩
        rw [e, show z_ix (nI v) = v from nI_clamp (by omega)]
theorem x_in_o {L : Nat} {k : Int32} (hL : L ≤ 12) (h : x_in L k) : z_o 12 k := by
  rcases h with h | ⟨v, hv, h⟩
  · exact Or.inl h
  · rw [h]; exact Or.inr (vp_in_nI (by omega) (by decide))
theorem x_full {σ : zS} {t : Nat} (I : xI σ) (ht : t < 4) : xf_isFull σ t = 0 ↔ ¬ σ 12 t 0 = 12 := by
  obtain ⟨j, hj, e⟩ := vp_in_of (I.2.2.2.2.2.1 t ht) (by decide)
  unfold xf_isFull
  rw [e]
  by_cases h : j = 12
  · subst h
    decide
  · have h1 : nI j < 12 := nI_lt (b := 12) (by omega) (by decide)
    have h2 : ¬ nI j = 12 := fun q => h ((nI_eq (b := 12) (by omega) (by decide)).mp q)
    simp [h1, h2]
theorem x_nar0 : vp_nar .boolean 0 = 0 := by decide
theorem x_nar1 : vp_nar .boolean 1 = 1 := by decide
theorem s_begin {σ ρ : zS} (O : zOk σ ρ) {t h : Int32} (hh : h = 0 ∨ h = 1) : zEq (xf_begin σ t h) (mf_begin ρ t h) := by
  obtain ⟨I, J, R⟩ := id O
  unfold xf_begin mf_begin xf_isBegun xf_isThread
  by_cases h0 : t < 0
  · simp only [h0, if_true]; exact ⟨rfl, O⟩
  · by_cases h1 : 4 ≤ t
    · simp only [h0, h1, i_lt4, if_true, if_false]; exact ⟨rfl, O⟩
    · have ht : vp_in t 4 := z_vin h0 h1 rfl
      have ht4 : z_ix t < 4 := z_vlt ht
      simp only [h0, h1, i_lt4, if_false, show ¬ (1 : Int32) = 0 from by decide, R.r9 _ ht4]
      by_cases h2 : σ 12 (z_ix t) 0 ≤ 0
      · simp only [h2, if_true]
        have e12 : σ 12 (z_ix t) 0 = 0 := by
          have h3 : vp_in (σ 12 (z_ix t) 0) 13 := I.2.2.2.2.2.1 _ ht4
          obtain ⟨j, hj, e⟩ := vp_in_of h3 (by decide)
          rw [e] at h2 ⊢
          have := (nI_leI (b := 0) (by omega) (by decide)).mp h2
          rw [nI_z (by omega)]
          omega
        have hl : vp_in (σ 12 (z_ix t) 0) 12 := by rw [e12]; exact vp_in_nI (n := 0) (by decide) (by decide)
        have hn : vp_nar .boolean h = h := by rcases hh with rfl | rfl <;> decide
        have ha2 : (if h = 0 then (0 : Int32) else 1) < 2 := by rcases hh with rfl | rfl <;> decide
        have hav : vp_in (if h = 0 then (0 : Int32) else 1) 10 := by
          rcases hh with rfl | rfl
          · exact vp_in_nI (n := 0) (by decide) (by decide)
          · exact vp_in_nI (n := 1) (by decide) (by decide)
        refine ⟨rfl, ?_, ?_, ?_⟩
        · exact I_push (xI_u13 I) hl hav (Or.inl rfl) (by rw [x_nar0]; rfl)
        · refine J_push (σ := σ) I J ht4 hl (fun f _ _ h13 => z_f h13) (Or.inl rfl) (fun q => absurd ha2 q) (fun q => absurd x_nar0 q) (fun _ _ _ _ _ => by rw [z_f (by decide)]) (fun k hk => ?_) ?_
          · rw [z_f (by decide), x_nar0]
            simp
          · have h5 := I.1.2
            rw [Int32.le_iff_toInt_le] at h5
            rw [Int32.lt_iff_toInt_lt] at ha2 ⊢
            omega
        · have hz : z_ix (t * 12 + 0) = z_ix t * 12 + 0 := m_ixv ht (vp_in_nI (n := 0) (by decide) (by decide))
          have hx : xf_push (z_up σ 13 (z_ix t) 0 h) (z_ix t) (if h = 0 then 0 else 1) (-1) 0 = z_up (z_up (z_up (z_up (z_up σ 13 (z_ix t) 0 h) 9 (z_ix t) 0 (if h = 0 then 0 else 1)) 10 (z_ix t) 0 (-1)) 11 (z_ix t) 0 0) 12 (z_ix t) 0 1 := by
            unfold xf_push
            rw [show z_up σ 13 (z_ix t) 0 h 12 (z_ix t) 0 = 0 from e12, x_nar0]
            rfl
          have hm : mf_step (mf_beginS ρ t h) t (if h = 0 then 0 else 1) (-1) 0 = z_up (z_up (z_up (z_up (z_up (z_up ρ 10 0 (z_ix t) h) 12 0 (z_ix t * 12 + 0) (if h = 0 then 0 else 1)) 13 0 (z_ix t * 12 + 0) (-1)) 14 0 (z_ix t * 12 + 0) 0) 11 0 (z_ix t) 1) 9 0 (z_ix t) 1 := by
            have hs : mf_beginS ρ t h 11 0 (z_ix t) = 0 := by
              unfold mf_beginS
              rw [z_at, if_pos ⟨rfl, rfl, rfl⟩]
            unfold mf_step
            rw [hs, hz, x_nar0]
            unfold mf_beginS
            rw [hn, x_nar1, show (0 : Int32) + 1 = 1 from rfl]
            funext f i j
            simp only [z_at]
            by_cases h9 : f = 9
            · subst h9; simp
            · by_cases h11 : f = 11
              · subst h11
                by_cases hij : i = 0 ∧ j = z_ix t
                · simp [hij]
                · simp [hij]
              · simp [h9, h11]
          rw [hx, hm]
          exact q_len2 (by decide) (q_en (by decide) (q_un (by decide) (q_at (by decide) (q_hl R))))
      · simp only [h2, if_false]
        rw [if_neg (show ¬ (1 : Int32) = 0 by decide)]
        exact ⟨rfl, O⟩
theorem l_begun9 {σ ρ : zS} (R : zRel σ ρ) {t : Int32} (h : ¬ xf_isBegun σ t = 0) : ¬ ρ 9 0 (z_ix t) = 0 := by
  rw [R.r9 _ (z_vlt (x_begun_thr h))]
  exact x_begun_len h
theorem s_turn3 {σ ρ : zS} (O : zOk σ ρ) {t a k u : Int32} (hb : ¬ xf_isBegun σ t = 0) (ha : vp_in a 10) (hlt : a < σ 17 0 0) (hu : x_in (z_ix (σ 12 (z_ix t) 0)) u) (hN : ¬ a < 2 → ∃ j, j < z_ix (σ 12 (z_ix t) 0) ∧ σ 9 (z_ix t) j = a)
    (hku : (if 0 ≤ k then ρ 13 0 (z_ix (t * 12 + k)) else -1) = u) : zEq (if xf_isFull σ (z_ix t) = 0 then (σ 12 (z_ix t) 0 + 1, xf_push σ (z_ix t) a u 0) else (-2, σ)) (mf_turn3 ρ t a k) := by
  obtain ⟨I, J, R⟩ := id O
  have ht := x_begun_thr hb
  have ht4 : z_ix t < 4 := z_vlt ht
  unfold mf_turn3
  rw [hku, R.r11 _ ht4]
  by_cases h : σ 12 (z_ix t) 0 = 12
  · rw [if_pos h, if_neg (fun q => (x_full I ht4).mp q h)]
    exact ⟨rfl, O⟩
  · have hf := (x_full I ht4).mpr h
    have hl := x_len_in I ht4 hf
    rw [if_neg h, if_pos hf]
    refine ⟨rfl, I_push I hl ha (x_in_o (x_len12 I ht4) hu) (by rw [x_nar0]; rfl), ?_, l_push R ht hl (l_begun9 R hb)⟩
    refine J_push I J ht4 hl (fun _ _ _ _ => rfl) hu (fun q => Or.inr (hN q)) (fun q => absurd x_nar0 q) (fun _ _ _ _ _ => rfl) (fun k hk => ?_) hlt
    rw [x_nar0]
    simp
theorem s_turn {σ ρ : zS} (O : zOk σ ρ) {t a : Int32} : zEq (xf_turn σ t a) (mf_turn ρ t a) := by
  obtain ⟨I, J, R⟩ := id O
  unfold xf_turn mf_turn
  simp only [l_idle R, l_noArea R]
  by_cases h1 : xf_isBegun σ t = 0
  · simp only [h1, not_true_eq_false, if_true, if_false]; exact ⟨rfl, O⟩
  · have ht := x_begun_thr h1
    have ht4 : z_ix t < 4 := z_vlt ht
    simp only [h1, not_false_eq_true, if_true, if_false]
    by_cases h2 : xf_isArea σ a = 0
    · simp only [h2, not_true_eq_false, if_true, if_false]; exact ⟨rfl, O⟩
    · have ha := x_area_in I h2
      have h0 : ¬ a < 0 := fun q => ha (Or.inl q)
      have hlt : a < σ 17 0 0 := by
        unfold xf_isArea at h2
        rw [if_neg h0] at h2
        exact i_nle.mp (fun q => h2 (by rw [if_pos q]))
      simp only [h2, not_false_eq_true, if_true, if_false, R.r10 _ ht4]
      have key : zEq (xf_turn2 σ t a) (mf_turn2 ρ t a) := by
        unfold xf_turn2 mf_turn2
        simp only [l_scope h0 hlt]
        by_cases h3 : a < 2
        · have h3' : ¬ 2 ≤ a := i_nle.mpr h3
          rw [if_pos h3, if_neg h3']
          unfold xf_turn3
          simp only [l_scope h0 hlt, h3, if_true]
          exact s_turn3 O h1 ha hlt (Or.inl rfl) (fun q => absurd h3 q) (if_neg (by decide))
        · have h3' : 2 ≤ a := i_nlt.mp h3
          rw [if_neg h3, if_pos h3']
          have hw := x_fw_in (a := a) J.2.2.2.1 ht4 (Nat.le_refl _) (x_len12 I ht4) 12 _ (x_in_top I ht4)
          by_cases h4 : xf_hasInView σ (z_ix t) a = 0
          · rw [if_pos h4, if_neg (fun q => (l_inView R I ht).mp q h4)]
            exact ⟨rfl, O⟩
          · rw [if_neg h4, if_pos ((l_inView R I ht).mpr h4), l_stepWith R I ht]
            have hne : ¬ xf_firstWith σ (z_ix t) a = -1 := by
              unfold xf_hasInView at h4
              intro q
              rw [if_pos q] at h4
              exact h4 rfl
            obtain ⟨v, hv, e, h9⟩ := hw.resolve_left hne
            have e' : xf_firstWith σ (z_ix t) a = nI v := e
            have h12 := x_len12 I ht4
            have hvv : vp_in (nI v) 12 := vp_in_nI (by omega) (by decide)
            have hzv : z_ix (nI v) = v := nI_clamp (by omega)
            unfold xf_turn3 xf_underOfFirstWith
            simp only [l_scope h0 hlt, h3, if_false, hne]
            rw [e', hzv]
            refine s_turn3 O h1 ha hlt ?_ (fun _ => ⟨v, hv, h9⟩) ?_
            · rcases J.2.2.2.1 _ ht4 v hv with q | ⟨w, hw2, q⟩
              · exact Or.inl q
              · exact Or.inr ⟨w, by omega, q⟩
            · rw [if_pos (nI_pos' (by omega)), m_ixv ht hvv, hzv, R.r13 _ ht4 _ (by omega)]
      by_cases h5 : a = 0
      · simp only [h5, if_true]
        by_cases h6 : σ 13 (z_ix t) 0 = 0
        · simp only [h6, if_true]
          rw [h5] at key
          exact key
        · simp only [h6, if_false]; exact ⟨rfl, O⟩
      · simp only [h5, if_false]
        exact key
