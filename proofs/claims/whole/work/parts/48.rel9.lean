-- a set of numbers that has what a search must keep
def ykI (σ : zS) (S : Nat → Prop) (v : Int32) : Prop := ¬ v = -1 → σ 6 (z_ix v) 0 = 0 → S (z_ix v)
def ykF (σ : zS) (S : Nat → Prop) (o : Nat) : Prop := ∀ f, f < 4 → ¬ σ 7 o 0 ≤ nI f → ykI σ S (σ 5 o f)
def ykC (σ : zS) (S : Nat → Prop) : Prop := (∀ k, k < 4 → ykI σ S (σ 14 0 k)) ∧ (∀ o, o < 40 → ¬ σ 6 o 0 = -1 → ¬ σ 6 o 0 = 0 → ykF σ S o) ∧ (∀ o, o < 40 → σ 6 o 0 = 0 → S o → ykF σ S o)
/-- the flags -/
def yk8 (τ : zS) (i : Nat) : Prop := ¬ τ 8 i 0 = 0
def ykT (S : Nat → Prop) (τ : zS) : Prop := ∀ i, i < 40 → yk8 τ i → S i
/-- the search of the class is under way in τ, over the numbers of σ -/
def ykL (σ τ : zS) : Prop := (∀ f, f ≠ 8 → f ≠ 15 → f ≠ 16 → τ f = σ f) ∧ xF τ ∧ (∀ j, j < x_cn τ 40 → yk8 τ (z_ix (τ 15 0 j)) ∧ σ 6 (z_ix (τ 15 0 j)) 0 = 0) ∧ (∀ i, i < 40 → yk8 τ i → ∃ j, j < x_cn τ 40 ∧ τ 15 0 j = nI i)
/-- it has grown -/
def ykG (τ τ' : zS) : Prop := (∀ i, yk8 τ i → yk8 τ' i) ∧ x_cn τ 40 ≤ x_cn τ' 40 ∧ ∀ j, j < x_cn τ 40 → τ' 15 0 j = τ 15 0 j
theorem ykG.rfl {τ : zS} : ykG τ τ := ⟨fun _ h => h, Nat.le_refl _, fun _ _ => Eq.refl _⟩
theorem ykG.trans {a b c : zS} (h : ykG a b) (g : ykG b c) : ykG a c := ⟨fun i q => g.1 i (h.1 i q), Nat.le_trans h.2.1 g.2.1, fun j q => (g.2.2 j (Nat.lt_of_lt_of_le q h.2.1)).trans (h.2.2 j q)⟩
theorem ykI.mono {σ : zS} {S S' : Nat → Prop} {v : Int32} (h : ykI σ S v) (g : ∀ i, S i → S' i) : ykI σ S' v := fun a b => g _ (h a b)
theorem ykF.mono {σ : zS} {S S' : Nat → Prop} {o : Nat} (h : ykF σ S o) (g : ∀ i, S i → S' i) : ykF σ S' o := fun f a b => (h f a b).mono g
theorem yk_keep {σ τ : zS} {o : Int32} (ho : z_o 40 o) (L : ykL σ τ) : ykL σ (xf_keep τ o) ∧ ykG τ (xf_keep τ o) ∧ ykI σ (yk8 (xf_keep τ o)) o ∧ ∀ S, ykT S τ → ykI σ S o → ykT S (xf_keep τ o) := by
  obtain ⟨L1, F, L3, L4⟩ := L
  have h6 : τ 6 = σ 6 := L1 6 (by decide) (by decide) (by decide)
  have F' := x_keep_F F ho
  unfold xf_keep at F' ⊢
  by_cases h1 : o = -1
  · rw [if_pos h1] at F' ⊢
    exact ⟨⟨L1, F, L3, L4⟩, ykG.rfl, fun q => absurd h1 q, fun S hS _ => hS⟩
  · rw [if_neg h1] at F' ⊢
    by_cases h2 : τ 6 (z_ix o) 0 = 0
    · rw [if_neg (fun q => q h2)] at F' ⊢
      by_cases h3 : τ 8 (z_ix o) 0 = 0
      · rw [if_neg (fun q => q h3)] at F' ⊢
        have hv := z_ovin ho h1
        have hl : z_ix o < 40 := z_vlt hv
        have hc : x_cn τ 40 < 40 := x_cn_lt h3 40 hl
        have e16 : z_ix (τ 16 0 0) = x_cn τ 40 := by rw [F.1]; exact nI_clamp (by omega)
        rw [e16] at F' ⊢
        generalize hT : z_up (z_up (z_up τ 8 (z_ix o) 0 1) 15 0 (x_cn τ 40) o) 16 0 0 (τ 16 0 0 + 1) = T at F' ⊢
        have t8 : ∀ i, T 8 i 0 = if i = z_ix o then 1 else τ 8 i 0 := fun i => by
          rw [← hT, z_f (by decide), z_f (by decide), z_at]
          by_cases q : i = z_ix o
          · rw [if_pos ⟨rfl, q, rfl⟩, if_pos q]
          · rw [if_neg (fun p => q p.2.1), if_neg q]
        have t15 : ∀ j, T 15 0 j = if j = x_cn τ 40 then o else τ 15 0 j := fun j => by
          rw [← hT, z_f (by decide), z_at]
          by_cases q : j = x_cn τ 40
          · rw [if_pos ⟨rfl, rfl, q⟩, if_pos q]
          · rw [if_neg (fun p => q p.2.2), if_neg q, z_f (by decide)]
        have tf : ∀ f, f ≠ 8 → f ≠ 15 → f ≠ 16 → T f = τ f := fun f a b c => by rw [← hT, z_f c, z_f b, z_f a]
        have e : x_cn T 40 = x_cn τ 40 + 1 := by
          refine (x_cn_congr (σ' := z_up τ 8 (z_ix o) 0 1) 40 (fun i _ => ?_)).trans ?_
          · rw [← hT, z_f (by decide), z_f (by decide)]
          · rw [x_cn_up h3 40, if_pos hl]
        have g8 : ∀ i, yk8 τ i → yk8 T i := fun i q => by
          unfold yk8
          rw [t8]
          split
          · decide
          · exact q
        have o8 : yk8 T (z_ix o) := by
          unfold yk8
          rw [t8, if_pos rfl]
          decide
        refine ⟨⟨fun f a b c => (tf f a b c).trans (L1 f a b c), F', fun j hj => ?_, fun i hi q => ?_⟩, ⟨g8, by omega, fun j hj => ?_⟩, fun _ _ => o8, fun S hS hI i hi q => ?_⟩
        · rw [t15]
          by_cases q : j = x_cn τ 40
          · rw [if_pos q]
            exact ⟨o8, by rw [← h6]; exact h2⟩
          · rw [if_neg q]
            have := L3 j (by omega)
            exact ⟨g8 _ this.1, this.2⟩
        · by_cases p : i = z_ix o
          · refine ⟨x_cn τ 40, by omega, ?_⟩
            rw [t15, if_pos rfl, p]
            obtain ⟨a, ha, ea⟩ := vp_in_of hv (by decide)
            rw [ea, show z_ix (nI a) = a from nI_clamp (by omega)]
          · unfold yk8 at q
            rw [t8, if_neg p] at q
            obtain ⟨j, hj, ej⟩ := L4 i hi q
            exact ⟨j, by omega, by rw [t15, if_neg (by omega)]; exact ej⟩
        · rw [t15, if_neg (by omega)]
        · by_cases p : i = z_ix o
          · rw [p]
            exact hI h1 (by rw [← h6]; exact h2)
          · unfold yk8 at q
            rw [t8, if_neg p] at q
            exact hS i hi q
      · rw [if_pos h3] at F' ⊢
        exact ⟨⟨L1, F, L3, L4⟩, ykG.rfl, fun _ _ => h3, fun S hS _ => hS⟩
    · rw [if_pos h2] at F' ⊢
      exact ⟨⟨L1, F, L3, L4⟩, ykG.rfl, fun _ q => absurd (by rw [h6]; exact q) h2, fun S hS _ => hS⟩
theorem yk_kl {σ : zS} (I : xI σ) {o : Nat} (ho : o < 40) : ∀ (k i : Nat) (τ : zS), i + k = 4 → ykL σ τ → ykL σ (xf_kl o k i τ) ∧ ykG τ (xf_kl o k i τ) ∧ (∀ f, i ≤ f → f < 4 → ¬ σ 7 o 0 ≤ nI f → ykI σ (yk8 (xf_kl o k i τ)) (σ 5 o f)) ∧ ∀ S, ykT S τ → ykF σ S o → ykT S (xf_kl o k i τ) := by
  intro k
  induction k with
  | zero =>
    intro i τ hk L
    exact ⟨L, ykG.rfl, fun f _ _ => by omega, fun S hS _ => hS⟩
  | succ k ih =>
    intro i τ hk L
    unfold xf_kl
    have h7 : τ 7 = σ 7 := L.1 7 (by decide) (by decide) (by decide)
    have h5 : τ 5 = σ 5 := L.1 5 (by decide) (by decide) (by decide)
    rw [h7, h5]
    by_cases h : σ 7 o 0 ≤ nI i
    · rw [if_pos h]
      refine ⟨L, ykG.rfl, fun f hf hf4 q => absurd ?_ q, fun S hS _ => hS⟩
      exact Int32.le_trans h (nI_le hf (by omega))
    · rw [if_neg h]
      obtain ⟨L1, G1, K1, S1⟩ := yk_keep (I.2.2.2.2.1 o ho i (by omega)) L
      obtain ⟨L2, G2, K2, S2⟩ := ih (i + 1) _ (by omega) L1
      refine ⟨L2, G1.trans G2, fun f hf hf4 q => ?_, fun S hS hF => S2 S (S1 S hS (hF i (by omega) h)) hF⟩
      by_cases p : f = i
      · rw [p]
        exact K1.mono G2.1
      · exact K2 f (by omega) hf4 q
theorem yk_kfo {σ τ : zS} (I : xI σ) {o : Nat} (ho : o < 40) (L : ykL σ τ) {v : Int32} (hv : z_ix v = o) : ykL σ (xf_keepFieldsOf τ v) ∧ ykG τ (xf_keepFieldsOf τ v) ∧ ykF σ (yk8 (xf_keepFieldsOf τ v)) o ∧ ∀ S, ykT S τ → ykF σ S o → ykT S (xf_keepFieldsOf τ v) := by
  unfold xf_keepFieldsOf
  rw [hv]
  obtain ⟨a, b, c, d⟩ := yk_kl I ho 4 0 τ rfl L
  exact ⟨a, b, fun f hf q => c f (Nat.zero_le _) hf q, d⟩
theorem yk_k1 {σ : zS} (I : xI σ) : ∀ (k i : Nat) (τ : zS), i + k = 4 → ykL σ τ → ykL σ (xf_k1 k i τ) ∧ ykG τ (xf_k1 k i τ) ∧ (∀ f, i ≤ f → f < 4 → ykI σ (yk8 (xf_k1 k i τ)) (σ 14 0 f)) ∧ ∀ S, ykT S τ → (∀ f, f < 4 → ykI σ S (σ 14 0 f)) → ykT S (xf_k1 k i τ) := by
  intro k
  induction k with
  | zero =>
    intro i τ hk L
    exact ⟨L, ykG.rfl, fun f _ _ => by omega, fun S hS _ => hS⟩
  | succ k ih =>
    intro i τ hk L
    unfold xf_k1
    rw [L.1 14 (by decide) (by decide) (by decide)]
    obtain ⟨L1, G1, K1, S1⟩ := yk_keep (I.2.2.2.2.2.2.2.2.1 i (by omega)) L
    obtain ⟨L2, G2, K2, S2⟩ := ih (i + 1) _ (by omega) L1
    refine ⟨L2, G1.trans G2, fun f hf hf4 => ?_, fun S hS hF => S2 S (S1 S hS (hF i (by omega))) hF⟩
    by_cases p : f = i
    · rw [p]
      exact K1.mono G2.1
    · exact K2 f (by omega) hf4
theorem yk_k2 {σ : zS} (I : xI σ) : ∀ (k i : Nat) (τ : zS), i + k = 40 → ykL σ τ → ykL σ (xf_k2 k i τ) ∧ ykG τ (xf_k2 k i τ) ∧ (∀ o, i ≤ o → o < 40 → ¬ σ 6 o 0 = -1 → ¬ σ 6 o 0 = 0 → ykF σ (yk8 (xf_k2 k i τ)) o) ∧ ∀ S, ykT S τ → (∀ o, o < 40 → ¬ σ 6 o 0 = -1 → ¬ σ 6 o 0 = 0 → ykF σ S o) → ykT S (xf_k2 k i τ) := by
  intro k
  induction k with
  | zero =>
    intro i τ hk L
    exact ⟨L, ykG.rfl, fun f _ _ => by omega, fun S hS _ => hS⟩
  | succ k ih =>
    intro i τ hk L
    unfold xf_k2
    rw [L.1 6 (by decide) (by decide) (by decide)]
    by_cases h1 : σ 6 i 0 = -1
    · rw [if_pos h1]
      obtain ⟨L2, G2, K2, S2⟩ := ih (i + 1) _ (by omega) L
      refine ⟨L2, G2, fun o ho h4 q1 q2 => ?_, fun S hS hF => S2 S hS hF⟩
      by_cases p : o = i
      · rw [p] at q1
        exact absurd h1 q1
      · exact K2 o (by omega) h4 q1 q2
    · rw [if_neg h1]
      by_cases h2 : σ 6 i 0 = 0
      · rw [if_pos h2]
        obtain ⟨L2, G2, K2, S2⟩ := ih (i + 1) _ (by omega) L
        refine ⟨L2, G2, fun o ho h4 q1 q2 => ?_, fun S hS hF => S2 S hS hF⟩
        by_cases p : o = i
        · rw [p] at q2
          exact absurd h2 q2
        · exact K2 o (by omega) h4 q1 q2
      · rw [if_neg h2]
        obtain ⟨L1, G1, K1, S1⟩ := yk_kfo I (o := i) (by omega) L (v := nI i) (nI_clamp (by omega))
        obtain ⟨L2, G2, K2, S2⟩ := ih (i + 1) _ (by omega) L1
        refine ⟨L2, G1.trans G2, fun o ho h4 q1 q2 => ?_, fun S hS hF => S2 S (S1 S hS (hF i (by omega) h1 h2)) hF⟩
        by_cases p : o = i
        · rw [p]
          exact K1.mono G2.1
        · exact K2 o (by omega) h4 q1 q2
theorem yk_k3 {σ : zS} (I : xI σ) : ∀ (k i : Nat) (τ : zS), i + k = 40 → ykL σ τ → (∀ j, j < i → j < x_cn τ 40 → ykF σ (yk8 τ) (z_ix (τ 15 0 j))) → ykL σ (xf_k3 k i τ) ∧ ykG τ (xf_k3 k i τ) ∧ (∀ j, j < x_cn (xf_k3 k i τ) 40 → ykF σ (yk8 (xf_k3 k i τ)) (z_ix (xf_k3 k i τ 15 0 j))) ∧ ∀ S, ykT S τ → (∀ o, o < 40 → σ 6 o 0 = 0 → S o → ykF σ S o) → ykT S (xf_k3 k i τ) := by
  intro k
  induction k with
  | zero =>
    intro i τ hk L H
    refine ⟨L, ykG.rfl, fun j hj => H j ?_ hj, fun S hS _ => hS⟩
    have hj : j < x_cn τ 40 := hj
    have := x_cn_le (σ := τ) 40
    omega
  | succ k ih =>
    intro i τ hk L H
    unfold xf_k3
    have hle := x_cn_le (σ := τ) 40
    by_cases h : τ 16 0 0 ≤ nI i
    · rw [if_pos h]
      refine ⟨L, ykG.rfl, fun j hj => H j ?_ hj, fun S hS _ => hS⟩
      rw [L.2.1.1] at h
      have := (nI_leI (by omega) (by omega)).mp h
      omega
    · rw [if_neg h]
      have hi : i < x_cn τ 40 := by
        rw [L.2.1.1] at h
        exact Nat.lt_of_not_le fun q => h ((nI_leI (by omega) (by omega)).mpr q)
      have hv := L.2.1.2 i hi
      have hl : z_ix (τ 15 0 i) < 40 := z_vlt hv
      have h3 := L.2.2.1 i hi
      obtain ⟨L1, G1, K1, S1⟩ := yk_kfo I hl L (v := τ 15 0 i) rfl
      have H1 : ∀ j, j < i + 1 → j < x_cn (xf_keepFieldsOf τ (τ 15 0 i)) 40 → ykF σ (yk8 (xf_keepFieldsOf τ (τ 15 0 i))) (z_ix (xf_keepFieldsOf τ (τ 15 0 i) 15 0 j)) := by
        intro j hj _
        rw [G1.2.2 j (by omega)]
        by_cases p : j = i
        · rw [p]
          exact K1
        · exact (H j (by omega) (by omega)).mono G1.1
      obtain ⟨L2, G2, K2, S2⟩ := ih (i + 1) _ (by omega) L1 H1
      exact ⟨L2, G1.trans G2, K2, fun S hS hF => S2 S (S1 S hS (hF _ hl h3.2 (hS _ hl h3.1))) hF⟩
theorem yk_start {σ : zS} : ykL σ (xf_k0 40 0 (z_up σ 16 0 0 0)) ∧ ∀ S, ykT S (xf_k0 40 0 (z_up σ 16 0 0 0)) := by
  have h8 : ∀ i, i < 40 → xf_k0 40 0 (z_up σ 16 0 0 0) 8 i 0 = 0 := fun i hi => by rw [x_k0_8, if_pos ⟨Nat.zero_le _, by omega⟩]
  have hc : ∀ k, k ≤ 40 → x_cn (xf_k0 40 0 (z_up σ 16 0 0 0)) k = 0 := by
    intro k
    induction k with
    | zero => intro _; rfl
    | succ k ih =>
      intro hk
      unfold x_cn
      rw [ih (by omega), if_pos (h8 k (by omega))]
  refine ⟨⟨fun f a b c => ?_, x_k0_F, fun j hj => ?_, fun i hi q => absurd (h8 i hi) q⟩, fun S i hi q => absurd (h8 i hi) q⟩
  · funext i j
    rw [x_k0_at a, z_f c]
  · rw [hc 40 (Nat.le_refl _)] at hj
    omega
/-- the class finds a set that has what it must, and no more than any other such set -/
theorem yk_found {σ : zS} (I : xI σ) : ykL σ (xf_findKept σ) ∧ ykC σ (yk8 (xf_findKept σ)) ∧ ∀ S, ykC σ S → ykT S (xf_findKept σ) := by
  obtain ⟨L0, S0⟩ := yk_start (σ := σ)
  unfold xf_findKept
  generalize xf_k0 40 0 (z_up σ 16 0 0 0) = τ0 at L0 S0 ⊢
  obtain ⟨L1, G1, K1, S1⟩ := yk_k1 I 4 0 τ0 rfl L0
  generalize xf_k1 4 0 τ0 = τ1 at L1 G1 K1 S1 ⊢
  obtain ⟨L2, G2, K2, S2⟩ := yk_k2 I 40 0 τ1 rfl L1
  generalize xf_k2 40 0 τ1 = τ2 at L2 G2 K2 S2 ⊢
  obtain ⟨L3, G3, K3, S3⟩ := yk_k3 I 40 0 τ2 rfl L2 (fun j q => by omega)
  generalize xf_k3 40 0 τ2 = τ3 at L3 G3 K3 S3 ⊢
  refine ⟨L3, ⟨fun k hk => (K1 k (Nat.zero_le _) hk).mono (G2.trans G3).1, fun o ho a b => (K2 o (Nat.zero_le _) ho a b).mono G3.1, fun o ho _ q => ?_⟩, fun S hS => S3 S (S2 S (S1 S (S0 S) hS.1) hS.2.1) hS.2.2⟩
  obtain ⟨j, hj, ej⟩ := L3.2.2.2 o ho q
  have := K3 j hj
  rw [ej, show z_ix (nI o) = o from nI_clamp (by omega)] at this
  exact this
