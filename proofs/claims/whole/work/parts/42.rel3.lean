-- view
theorem x_av_u {σ : zS} {t : Nat} : ∀ (K D : Nat) (k : Int32), D ≤ K → xf_av σ t K D k = x_u σ t D k := by
  intro K
  induction K with
  | zero =>
    intro D k h
    obtain rfl : D = 0 := by omega
    rfl
  | succ K ih =>
    intro D k h
    cases D with
    | zero => rfl
    | succ D =>
      unfold xf_av x_u
      split
      · rfl
      · exact ih D _ (by omega)
theorem x_av_U {σ : zS} {t : Nat} : ∀ (K D : Nat) (k : Int32), K ≤ D → xf_av σ t K D k = x_u σ t K k := by
  intro K
  induction K with
  | zero => intro D k h; rfl
  | succ K ih =>
    intro D k h
    obtain ⟨E, rfl⟩ : ∃ E, D = E + 1 := ⟨D - 1, by omega⟩
    unfold xf_av x_u
    split
    · rfl
    · exact ih E _ (by omega)
theorem x_u_dec {σ : zS} {t : Nat} (J : jV σ) (ht : t < 4) : ∀ (d v : Nat), v < z_ix (σ 12 t 0) → x_u σ t d (nI v) = -1 ∨ ∃ w, w + d ≤ v ∧ x_u σ t d (nI v) = nI w := by
  intro d
  induction d with
  | zero => intro v _; exact Or.inr ⟨v, by omega, rfl⟩
  | succ d ih =>
    intro v hv
    rw [x_u_s]
    rcases ih v hv with h | ⟨w, hw, h⟩
    · rw [if_pos h]
      exact Or.inl rfl
    · by_cases h0 : x_u σ t d (nI v) = -1
      · rw [if_pos h0]
        exact Or.inl rfl
      · rw [if_neg h0, h]
        have hlt : w < 2 ^ 31 := by
          have := Int32.toNatClampNeg_lt (σ 12 t 0)
          have h2 : v < (σ 12 t 0).toNatClampNeg := hv
          omega
        rw [show z_ix (nI w) = w from nI_clamp hlt]
        rcases J t ht w (by omega) with h3 | ⟨u, hu, h3⟩
        · exact Or.inl h3
        · exact Or.inr ⟨u, by omega, h3⟩
theorem x_u_12 {σ : zS} {t : Nat} (I : xI σ) (J : jV σ) (ht : t < 4) : x_u σ t 12 (xf_top σ t) = -1 := by
  have hl := x_len12 I ht
  rcases x_top_o I ht with h | h
  · rw [h]
    unfold x_u
    rw [if_pos rfl]
  · obtain ⟨v, hv, e⟩ := vp_in_of h (by decide)
    have hv2 : v < z_ix (σ 12 t 0) := by
      obtain ⟨j, hj, e2⟩ := vp_in_of (I.2.2.2.2.2.1 t ht) (by decide)
      unfold xf_top at e
      rw [e2] at e ⊢
      rw [show z_ix (nI j) = j from nI_clamp (by omega)]
      cases j with
      | zero =>
        exfalso
        have : (nI v).toInt = -1 := by rw [← e]; rfl
        rw [nI_toInt (by omega)] at this
        omega
      | succ j =>
        rw [nI_pred] at e
        have := (nI_eq (by omega) (by omega)).mp e
        omega
    rw [e]
    rcases x_u_dec J ht 12 v hv2 with h3 | ⟨w, hw, -⟩
    · exact h3
    · omega
theorem e_view {σ ρ : zS} (R : zRel σ ρ) (I : xI σ) (J : zJ σ) {t i : Int32} : mf_view ρ t i = xf_view σ t i := by
  unfold mf_view xf_view
  simp only [l_idle R]
  by_cases h1 : xf_isBegun σ t = 0
  · simp [h1]
  · have ht := x_begun_thr h1
    simp only [h1, not_false_eq_true, if_true, if_false]
    by_cases h2 : i < 0
    · rw [if_pos h2, if_neg (fun q => z_nn q h2)]
    · rw [if_neg h2, if_pos (i_nlt.mp h2), l_viewed R I ht]
      obtain ⟨j, hj, e⟩ := nI_of h2
      have hz : z_ix i = j := by rw [e]; exact nI_clamp hj
      unfold xf_areaInView
      by_cases h3 : i ≤ 11
      · have hj11 : j ≤ 11 := by
          rw [e] at h3
          exact (nI_leI (b := 11) hj (by decide)).mp h3
        rw [if_pos h3, hz, x_av_u 12 j _ (by omega)]
        have ho := x_u_o I (z_vlt ht) j _ (x_top_o I (z_vlt ht))
        by_cases h4 : x_u σ (z_ix t) j (xf_top σ (z_ix t)) = -1
        · rw [if_neg (fun q => (z_ole ho).mp q h4)]
          simp [h4]
        · have hv := z_ovin ho h4
          rw [if_pos ((z_ole ho).mpr h4), m_ixv ht hv, R.r12 _ (z_vlt ht) _ (z_vlt hv)]
          simp only [h4, if_false]
          split
          · rename_i h5; exact h5
          · rfl
      · have hj12 : 12 ≤ j := by
          rw [e] at h3
          exact Nat.lt_of_not_le fun q => h3 (nI_le (b := 11) q (by decide))
        rw [if_neg h3, hz, x_av_U 12 j _ hj12, x_u_12 I J.2.2.2.1 (z_vlt ht)]
        simp
-- what J rests on
theorem x_us_c {σ σ' : zS} {a : Int32} (h6 : σ' 6 = σ 6) (h7 : σ' 7 = σ 7) (k : Nat) : x_us σ' a k = x_us σ a k := by
  induction k with
  | zero => rfl
  | succ k ih => unfold x_us; rw [ih, h6, h7]
theorem x_ob_c {σ σ' : zS} (h6 : σ' 6 = σ 6) (k : Nat) : x_ob σ' k = x_ob σ k := by
  induction k with
  | zero => rfl
  | succ k ih => unfold x_ob; rw [ih, h6]
theorem x_e1_c {σ σ' : zS} {t : Nat} {a : Int32} (k : Nat) (h : ∀ j, j < k → σ' 9 t j = σ 9 t j ∧ σ' 11 t j = σ 11 t j) : x_e1 σ' t a k = x_e1 σ t a k := by
  induction k with
  | zero => rfl
  | succ k ih => unfold x_e1; rw [ih (fun j hj => h j (by omega)), (h k (by omega)).1, (h k (by omega)).2]
theorem x_es4_c {σ σ' : zS} {a : Int32} (h9 : σ' 9 = σ 9) (h11 : σ' 11 = σ 11) (h12 : σ' 12 = σ 12) : x_es4 σ' a = x_es4 σ a := by
  have h : ∀ t, x_et σ' a t = x_et σ a t := fun t => by
    unfold x_et
    rw [h12]
    exact x_e1_c _ (fun j _ => by rw [h9, h11]; exact ⟨rfl, rfl⟩)
  unfold x_es4
  rw [h, h, h, h]
theorem zJ_c {σ σ' : zS} (J : zJ σ) (h0 : σ' 0 = σ 0) (h1 : σ' 1 = σ 1) (h2 : σ' 2 = σ 2) (h3 : σ' 3 = σ 3) (h4 : σ' 4 = σ 4) (h6 : σ' 6 = σ 6) (h7 : σ' 7 = σ 7) (h9 : σ' 9 = σ 9) (h10 : σ' 10 = σ 10) (h11 : σ' 11 = σ 11) (h12 : σ' 12 = σ 12) (h18 : σ' 18 = σ 18) (h17 : σ' 17 = σ 17) : zJ σ' := by
  obtain ⟨a1, a2, a3, a4, a5, a6, a7, a8, a9, a10⟩ := J
  refine ⟨fun a ha => ?_, fun a ha => ?_, ?_, ?_, fun a ha => ?_, ?_, ?_, ?_, ?_, ?_⟩
  · rw [h1, x_us_c h6 h7]; exact a1 a ha
  · rw [h0]; exact a2 a ha
  · unfold jO; rw [h18, x_ob_c h6]; exact a3
  · unfold jV; rw [h12, h10]; exact a4
  · rw [h2, x_es4_c h9 h11 h12]; exact a5 a ha
  · unfold jN; rw [h12, h9, h11]; exact a6
  · unfold jP; rw [h12, h9, h11, h3]; exact a7
  · unfold jA; rw [h6, h2]; exact a8
  · unfold jQ; rw [h4]; exact a9
  · unfold jB; rw [h6, h9, h17]; exact a10
theorem z_f {σ : zS} {f i j g : Nat} {v : Int32} (h : g ≠ f) : z_up σ f i j v g = σ g := by
  funext a b
  simp [z_at, h]
theorem J_o {σ : zS} {f i j : Nat} {v : Int32} (J : zJ σ) (hf : f = 5 ∨ f = 8 ∨ f = 13 ∨ f = 14 ∨ f = 15 ∨ f = 16) : zJ (z_up σ f i j v) := by
  refine zJ_c J ?_ ?_ ?_ ?_ ?_ ?_ ?_ ?_ ?_ ?_ ?_ ?_ ?_ <;> (apply z_f; omega)
-- the two together
def zOk (σ ρ : zS) : Prop := xI σ ∧ zJ σ ∧ zRel σ ρ
def zEq (X M : Int32 × zS) : Prop := M.1 = X.1 ∧ zOk X.2 M.2
theorem s_scope {σ ρ : zS} (O : zOk σ ρ) {size : Int32} : zEq (xf_scope σ size) (mf_scope ρ size) := by
  obtain ⟨I, J, R⟩ := id O
  unfold xf_scope mf_scope
  by_cases h1 : size < 1
  · rw [if_pos h1, if_pos h1]; exact ⟨rfl, O⟩
  · rw [if_neg h1, if_neg h1]
    by_cases h2 : size ≤ 40
    · rw [if_pos h2, if_pos h2, R.r0]
      by_cases h3 : σ 17 0 0 < 10
      · have h4 : ¬ σ 17 0 0 = 10 := fun q => by rw [q] at h3; exact absurd h3 (by decide)
        rw [if_pos h3, if_neg h4]
        have hn := x_nA_in I h3
        obtain ⟨k, hk, e⟩ := vp_in_of hn (by decide)
        have hz : z_ix (σ 17 0 0) = k := by rw [e]; exact nI_clamp (by omega)
        have e2 : σ 17 0 0 + 1 = nI (k + 1) := by rw [e]; exact nI_1 k
        refine ⟨?_, ?_, ?_, ?_⟩
        · show σ 17 0 0 + 1 - 1 = σ 17 0 0
          rw [e2, nI_pred, e]
        · refine xI_u17 (xI_u0 I) ?_
          rw [e2]
          have h5 := I.1.2
          rw [e] at h5
          have h6 := (nI_leI (a := 2) (by decide) (by omega)).mp h5
          exact ⟨nI_le (b := 10) (by omega) (by decide), nI_le (a := 2) (by omega) (by omega)⟩
        · obtain ⟨a1, a2, a3, a4, a5, a6, a7, a8, a9, a10⟩ := J
          have f6 : z_up (z_up σ 0 (z_ix (σ 17 0 0)) 0 size) 17 0 0 (σ 17 0 0 + 1) 6 = σ 6 := by rw [z_f (by decide), z_f (by decide)]
          have f7 : z_up (z_up σ 0 (z_ix (σ 17 0 0)) 0 size) 17 0 0 (σ 17 0 0 + 1) 7 = σ 7 := by rw [z_f (by decide), z_f (by decide)]
          have f9 : z_up (z_up σ 0 (z_ix (σ 17 0 0)) 0 size) 17 0 0 (σ 17 0 0 + 1) 9 = σ 9 := by rw [z_f (by decide), z_f (by decide)]
          have f11 : z_up (z_up σ 0 (z_ix (σ 17 0 0)) 0 size) 17 0 0 (σ 17 0 0 + 1) 11 = σ 11 := by rw [z_f (by decide), z_f (by decide)]
          have f12 : z_up (z_up σ 0 (z_ix (σ 17 0 0)) 0 size) 17 0 0 (σ 17 0 0 + 1) 12 = σ 12 := by rw [z_f (by decide), z_f (by decide)]
          have f17 : ∀ x : Int32, x < σ 17 0 0 → x < σ 17 0 0 + 1 := by
            intro x hx
            rw [e2]
            rw [e] at hx
            rw [Int32.lt_iff_toInt_lt] at hx ⊢
            rw [nI_toInt (by omega)] at hx ⊢
            omega
          refine ⟨fun a ha => ?_, fun a ha => ?_, ?_, a4, fun a ha => ?_, a6, a7, a8, a9, ?_, ?_⟩
          · rw [x_us_c f6 f7]; exact a1 a ha
          · dsimp only
            rw [z_f (f := 17) (g := 0) (by decide), z_at]
            split
            · rw [vp_in_iff]
              rw [Int32.lt_iff_toInt_lt] at h1
              rw [Int32.le_iff_toInt_le] at h2
              have q1 : (1 : Int32).toInt = 1 := rfl
              have q2 : (40 : Int32).toInt = 40 := rfl
              omega
            · exact a2 a ha
          · unfold jO; rw [x_ob_c f6]; exact a3
          · rw [x_es4_c f9 f11 f12]; exact a5 a ha
          · intro o ho
            dsimp only
            rw [f6]
            exact f17 _ (a10.1 o ho)
          · intro t ht j hj
            dsimp only
            rw [f9]
            exact f17 _ (a10.2 t ht j hj)
        · exact q_nA (q_size R)
      · have h4 : σ 17 0 0 = 10 := by
          have h5 := I.1.1
          have h6 := i_nlt.mp h3
          rw [Int32.le_iff_toInt_le] at h5 h6
          exact Int32.toInt_inj.mp (by omega)
        rw [if_neg h3, if_pos h4]
        exact ⟨rfl, O⟩
    · rw [if_neg h2, if_neg h2]; exact ⟨rfl, O⟩
theorem x_thr3 {k : Int32} : (3 : Int32) < k ↔ 4 ≤ k := i_lt4
theorem s_assign {σ ρ : zS} (O : zOk σ ρ) {t k o : Int32} : zEq (xf_assign σ t k o) (mf_assign ρ t k o) := by
  obtain ⟨I, J, R⟩ := id O
  unfold xf_assign mf_assign mf_assign2 xf_seesOrNull
  simp only [l_idle R, l_noObject R I, l_objN, i_lt4]
  by_cases h1 : xf_isBegun σ t = 0
  · simp only [h1, not_true_eq_false, if_true, if_false]; exact ⟨rfl, O⟩
  · have ht := x_begun_thr h1
    simp only [h1, not_false_eq_true, if_true, if_false]
    by_cases h2 : k < 0
    · rw [if_pos h2, if_pos h2]; exact ⟨rfl, O⟩
    · rw [if_neg h2, if_neg h2]
      by_cases h3 : 4 ≤ k
      · rw [if_pos h3, if_pos h3]; exact ⟨rfl, O⟩
      · rw [if_neg h3, if_neg h3]
        have hk : vp_in k 4 := z_vin h2 h3 rfl
        have fin : ∀ v, z_o 40 v → zOk (z_up σ 14 0 (z_ix k) v) (z_up ρ 15 0 (z_ix k) v) := fun v hv => ⟨xI_u14 I hv, J_o J (by omega), q_fix R⟩
        by_cases h4 : o = -1
        · subst h4
          simp only [not_true_eq_false, false_and, if_false, if_true]
          rw [if_neg (by decide), if_pos (by decide)]
          exact ⟨rfl, fin _ (Or.inl rfl)⟩
        · simp only [h4, not_false_eq_true, true_and, if_false]
          by_cases h5 : xf_isObject σ o = 0
          · simp only [h5, not_true_eq_false, if_true, if_false]; exact ⟨rfl, O⟩
          · have ho := x_obj h5
            have hon : ¬ o < 0 := fun q => ho (Or.inl q)
            simp only [h5, not_false_eq_true, if_true, if_false]
            rw [if_neg hon, l_sees R I ht ho]
            by_cases h6 : xf_sees σ t o = 0
            · simp only [h6, if_true]; exact ⟨rfl, O⟩
            · simp only [h6, if_false]
              rw [if_neg (by decide), R.r5 _ (z_vlt ho)]
              have ha := z_ovin (I.2.2.1 _ (z_vlt ho)) (x_obj_area h5)
              have key : σ 6 (z_ix o) 0 ≤ 1 ↔ xf_isScope σ (σ 6 (z_ix o) 0) = 0 := by
                have hlt := J.2.2.2.2.2.2.2.2.2.1 _ (z_vlt ho)
                have hlt : σ 6 (z_ix o) 0 < σ 17 0 0 := hlt
                have h0 : ¬ σ 6 (z_ix o) 0 < 0 := fun q => ha (Or.inl q)
                unfold xf_isScope xf_isArea
                rw [if_neg h0, if_neg (i_nle.mpr hlt), i_le1]
                by_cases h9 : σ 6 (z_ix o) 0 < 2
                · simp [h9]
                · simp [h9]
              simp only [key]
              by_cases h7 : xf_isScope σ (σ 6 (z_ix o) 0) = 0
              · simp only [h7, if_true]; exact ⟨rfl, fin _ (Or.inr ho)⟩
              · simp only [h7, if_false]; exact ⟨rfl, O⟩
theorem l_scope {σ : zS} {a : Int32} (h0 : ¬ a < 0) (hlt : a < σ 17 0 0) : xf_isScope σ a = 0 ↔ a < 2 := by
  unfold xf_isScope xf_isArea
  rw [if_neg h0, if_neg (i_nle.mpr hlt)]
  by_cases h9 : a < 2
  · simp [h9]
  · simp [h9]
theorem s_put {σ ρ : zS} (O : zOk σ ρ) {t o f g : Int32} : zEq (xf_put σ t o f g) (mf_put ρ t o f g) := by
  obtain ⟨I, J, R⟩ := id O
  unfold xf_put mf_put mf_put2 xf_seesOrNull xf_hasField
  simp only [l_idle R, l_noObject R I, l_objN, i_lt4]
  by_cases h1 : xf_isBegun σ t = 0
  · simp only [h1, not_true_eq_false, if_true, if_false]; exact ⟨rfl, O⟩
  · have ht := x_begun_thr h1
    simp only [h1, not_false_eq_true, if_true, if_false]
    by_cases h2 : xf_isObject σ o = 0
    · simp only [h2, not_true_eq_false, if_true, if_false]; exact ⟨rfl, O⟩
    · have ho := x_obj h2
      simp only [h2, not_false_eq_true, if_true, if_false]
      by_cases h3 : f < 0
      · simp only [h3, if_true]; exact ⟨rfl, O⟩
      · simp only [h3, if_false]
        have h7 : vp_in (σ 7 (z_ix o) 0) 5 := I.2.2.2.1 _ (z_vlt ho)
        by_cases h4 : σ 7 (z_ix o) 0 ≤ f
        · have h4' : ¬ f < σ 7 (z_ix o) 0 := i_nlt.mpr h4
          simp only [h4, if_true, R.r6 _ (z_vlt ho), h4', if_false]
          split
          · exact ⟨rfl, O⟩
          · split
            · exact ⟨rfl, O⟩
            · split
              · exact ⟨rfl, O⟩
              · exact ⟨rfl, O⟩
        · have h4' : f < σ 7 (z_ix o) 0 := i_nle.mp h4
          have hf : vp_in f 4 := by
            rw [vp_in_iff] at h7 ⊢
            rw [Int32.lt_iff_toInt_lt, Int32.toInt_zero] at h3
            rw [Int32.lt_iff_toInt_lt] at h4'
            omega
          have hf4 : ¬ 4 ≤ f := by
            rw [vp_in_iff] at hf
            rw [Int32.le_iff_toInt_le]
            have q2 : (4 : Int32).toInt = 4 := rfl
            omega
          simp only [h4, hf4, if_false, R.r6 _ (z_vlt ho), h4', if_true, show ¬ (1 : Int32) = 0 from by decide, m_ixv4 ho hf, l_sees R I ht ho]
          have fin : ∀ v, z_o 40 v → zOk (z_up σ 5 (z_ix o) (z_ix f) v) (z_up ρ 7 0 (z_ix o * 4 + z_ix f) v) := fun v hv => ⟨xI_u5 I hv, J_o J (by omega), q_field (z_vlt hf) R⟩
          by_cases h5 : g = -1
          · subst h5
            simp only [not_true_eq_false, false_and, if_false, if_true]
            rw [if_pos (show (-1 : Int32) < 0 by decide)]
            split
            · exact ⟨rfl, O⟩
            · exact ⟨rfl, fin _ (Or.inl rfl)⟩
          · simp only [h5, not_false_eq_true, true_and, if_false]
            by_cases h6 : xf_isObject σ g = 0
            · simp only [h6, not_true_eq_false, if_true, if_false]; exact ⟨rfl, O⟩
            · have hg := x_obj h6
              have hgn : ¬ g < 0 := fun q => hg (Or.inl q)
              simp only [h6, not_false_eq_true, if_true, if_false, hgn, l_sees R I ht hg, R.r5 _ (z_vlt ho)]
              rw [l_mayPoint R I J (I.2.2.1 _ (z_vlt ho)) (J.2.2.2.2.2.2.2.1 _ (z_vlt ho)) hg (x_obj_area h6)]
              split
              · exact ⟨rfl, O⟩
              · by_cases h8 : xf_sees σ t g = 0
                · simp only [h8, if_true]; exact ⟨rfl, O⟩
                · simp only [h8, if_false, show ¬ (1 : Int32) = 0 from by decide]
                  split
                  · exact ⟨rfl, O⟩
                  · exact ⟨rfl, fin _ (Or.inr hg)⟩
theorem s_hang {σ ρ : zS} (O : zOk σ ρ) {t z o : Int32} : zEq (xf_hang σ t z o) (mf_hang ρ t z o) := by
  obtain ⟨I, J, R⟩ := id O
  unfold xf_hang mf_hang mf_hang2 xf_seesOrNull
  simp only [l_idle R, l_noObject R I, l_noScope R, l_objN]
  by_cases h1 : xf_isBegun σ t = 0
  · simp only [h1, not_true_eq_false, if_true, if_false]; exact ⟨rfl, O⟩
  · have ht := x_begun_thr h1
    simp only [h1, not_false_eq_true, if_true, if_false]
    by_cases h2 : xf_isScope σ z = 0
    · simp only [h2, not_true_eq_false, if_true, if_false]; exact ⟨rfl, O⟩
    · have hz := x_scope_in I h2
      simp only [h2, not_false_eq_true, if_true, if_false, l_inView2 R I ht]
      have fin : ∀ v, z_o 40 v → zOk (z_up σ 4 (z_ix z) 0 v) (z_up ρ 4 0 (z_ix z) v) := by
        intro v hv
        refine ⟨xI_u4 I, ?_, q_por R⟩
        obtain ⟨a1, a2, a3, a4, a5, a6, a7, a8, a9, a10⟩ := J
        refine ⟨fun a ha => ?_, a2, ?_, a4, fun a ha => ?_, a6, a7, a8, fun i hi => ?_, a10⟩
        · rw [x_us_c (z_f (by decide)) (z_f (by decide))]; exact a1 a ha
        · unfold jO; rw [x_ob_c (z_f (by decide))]; exact a3
        · rw [x_es4_c (z_f (by decide)) (z_f (by decide)) (z_f (by decide))]; exact a5 a ha
        · rw [z_at]
          split
          · exact hv
          · exact a9 i hi
      by_cases h5 : o = -1
      · subst h5
        simp only [not_true_eq_false, false_and, if_false, if_true]
        rw [if_pos (show (-1 : Int32) < 0 by decide), if_neg (show ¬ (1 : Int32) = 0 by decide)]
        split
        · exact ⟨rfl, O⟩
        · exact ⟨rfl, fin _ (Or.inl rfl)⟩
      · simp only [h5, not_false_eq_true, true_and, if_false]
        by_cases h6 : xf_isObject σ o = 0
        · simp only [h6, not_true_eq_false, if_true, if_false]; exact ⟨rfl, O⟩
        · have ho := x_obj h6
          have hon : ¬ o < 0 := fun q => ho (Or.inl q)
          simp only [h6, not_false_eq_true, if_true, if_false, hon, l_sees R I ht ho, R.r5 _ (z_vlt ho)]
          split
          · exact ⟨rfl, O⟩
          · by_cases h8 : xf_sees σ t o = 0
            · simp only [h8, if_true]; exact ⟨rfl, O⟩
            · simp only [h8, if_false, show ¬ (1 : Int32) = 0 from by decide]
              split
              · exact ⟨rfl, fin _ (Or.inr ho)⟩
              · exact ⟨rfl, O⟩
