-- the reference's search: rounds until nothing changes
def ym8 (κ : zS) (i : Nat) : Prop := ¬ κ 8 0 i = 0
def ymT (κ : zS) : zS := fun f i j => κ f j i
def ym_cn (κ : zS) : Nat := x_cn (ymT κ) 40
theorem ymT_up {κ : zS} {f i : Nat} {v : Int32} : ymT (z_up κ f 0 i v) = z_up (ymT κ) f i 0 v := by
  funext a b c
  unfold ymT
  simp only [z_at]
  by_cases h : a = f ∧ c = 0 ∧ b = i
  · rw [if_pos h, if_pos ⟨h.1, h.2.2, h.2.1⟩]
  · rw [if_neg h, if_neg (fun q => h ⟨q.1, q.2.2, q.2.1⟩)]
def ymS (S : Nat → Prop) (κ : zS) : Prop := ∀ i, i < 40 → ym8 κ i → S i
/-- a round from κ is under way in q, over the numbers of ρ -/
def ymN (ρ κ : zS) (q : Int32 × zS) : Prop := (∀ f, f ≠ 8 → q.2 f = ρ f) ∧ (q.1 = 0 → q.2 = κ) ∧ (¬ q.1 = 0 → ym_cn κ + 1 ≤ ym_cn q.2) ∧ ym_cn κ ≤ ym_cn q.2
theorem ym_ks {σ ρ κ : zS} {q : Int32 × zS} {o : Int32} (R : zRel σ ρ) (ho : z_o 40 o) (N : ymN ρ κ q) : ymN ρ κ (mf_ks q o) ∧ ((mf_ks q o).1 = 0 → q.1 = 0 ∧ ykI σ (ym8 κ) o) ∧ (∀ i, ym8 q.2 i → ym8 (mf_ks q o).2 i) ∧ ∀ S, ymS S q.2 → ykI σ S o → ymS S (mf_ks q o).2 := by
  obtain ⟨N1, N2, N3, N4⟩ := N
  have h5 : q.2 5 = ρ 5 := N1 5 (by decide)
  unfold mf_ks mf_keeps
  by_cases h1 : o = -1
  · rw [if_pos ((z_olt ho).mpr h1), if_pos rfl]
    exact ⟨⟨N1, N2, N3, N4⟩, fun p => ⟨p, fun r => absurd h1 r⟩, fun _ h => h, fun S hS _ => hS⟩
  · rw [if_neg (fun p => h1 ((z_olt ho).mp p))]
    have hv := z_ovin ho h1
    have hl : z_ix o < 40 := z_vlt hv
    have e5 : q.2 5 0 (z_ix o) = σ 6 (z_ix o) 0 := by rw [h5]; exact R.r5 _ hl
    rw [e5]
    by_cases h2 : σ 6 (z_ix o) 0 = 0
    · rw [if_pos h2]
      by_cases h3 : q.2 8 0 (z_ix o) = 0
      · rw [if_pos h3, if_neg (show ¬ (1 : Int32) = 0 by decide), x_nar1]
        have hc : ym_cn (z_up q.2 8 0 (z_ix o) 1) = ym_cn q.2 + 1 := by
          unfold ym_cn
          rw [ymT_up, x_cn_up (show ymT q.2 8 (z_ix o) 0 = 0 from h3) 40, if_pos hl]
        have t8 : ∀ i, z_up q.2 8 0 (z_ix o) 1 8 0 i = if i = z_ix o then 1 else q.2 8 0 i := fun i => by
          rw [z_at]
          by_cases p : i = z_ix o
          · rw [if_pos ⟨rfl, rfl, p⟩, if_pos p]
          · rw [if_neg (fun r => p r.2.2), if_neg p]
        refine ⟨⟨fun f hf => (z_f hf).trans (N1 f hf), fun p => absurd (show (1 : Int32) = 0 from p) (by decide), fun _ => ?_, ?_⟩, fun p => absurd (show (1 : Int32) = 0 from p) (by decide), fun i hi => ?_, fun S hS hI i hi p => ?_⟩
        · show ym_cn κ + 1 ≤ ym_cn (z_up q.2 8 0 (z_ix o) 1)
          omega
        · show ym_cn κ ≤ ym_cn (z_up q.2 8 0 (z_ix o) 1)
          omega
        · show ¬ z_up q.2 8 0 (z_ix o) 1 8 0 i = 0
          rw [t8]
          split
          · decide
          · exact hi
        · have p : ¬ z_up q.2 8 0 (z_ix o) 1 8 0 i = 0 := p
          rw [t8] at p
          by_cases r : i = z_ix o
          · rw [r]; exact hI h1 h2
          · rw [if_neg r] at p
            exact hS i hi p
      · rw [if_neg h3, if_pos rfl]
        refine ⟨⟨N1, N2, N3, N4⟩, fun p => ⟨p, fun _ _ => ?_⟩, fun _ h => h, fun S hS _ => hS⟩
        have := N2 p
        rw [this] at h3
        exact h3
    · rw [if_neg h2, if_pos rfl]
      exact ⟨⟨N1, N2, N3, N4⟩, fun p => ⟨p, fun _ r => absurd r h2⟩, fun _ h => h, fun S hS _ => hS⟩
theorem ym_l1 {σ ρ κ : zS} (R : zRel σ ρ) (I : xI σ) : ∀ (k i : Nat) (q : Int32 × zS), i + k = 4 → ymN ρ κ q → ymN ρ κ (mf_l1 k i q) ∧ ((mf_l1 k i q).1 = 0 → q.1 = 0 ∧ ∀ j, i ≤ j → j < 4 → ykI σ (ym8 κ) (σ 14 0 j)) ∧ ∀ S, ymS S q.2 → (∀ j, j < 4 → ykI σ S (σ 14 0 j)) → ymS S (mf_l1 k i q).2 := by
  intro k
  induction k with
  | zero =>
    intro i q hk N
    exact ⟨N, fun p => ⟨p, fun j _ _ => by omega⟩, fun S hS _ => hS⟩
  | succ k ih =>
    intro i q hk N
    unfold mf_l1
    have e : q.2 15 0 i = σ 14 0 i := by rw [N.1 15 (by decide)]; exact R.r15 i (by omega)
    rw [e]
    obtain ⟨N1, Z1, _, S1⟩ := ym_ks R (I.2.2.2.2.2.2.2.2.1 i (by omega)) N
    obtain ⟨N2, Z2, S2⟩ := ih (i + 1) _ (by omega) N1
    refine ⟨N2, fun p => ?_, fun S hS hF => S2 S (S1 S hS (hF i (by omega))) hF⟩
    obtain ⟨p1, p2⟩ := Z2 p
    obtain ⟨p3, p4⟩ := Z1 p1
    refine ⟨p3, fun j hj h4 => ?_⟩
    by_cases r : j = i
    · rw [r]; exact p4
    · exact p2 j (by omega) h4
theorem ym_l2s {σ ρ κ : zS} {q : Int32 × zS} {i : Nat} (R : zRel σ ρ) (I : xI σ) (hi : i < 160) (N : ymN ρ κ q) : ymN ρ κ (mf_l2s i q) ∧ ((mf_l2s i q).1 = 0 → q.1 = 0 ∧ (¬ σ 7 (i / 4) 0 ≤ nI (i % 4) → (¬ σ 6 (i / 4) 0 = -1 ∧ ¬ σ 6 (i / 4) 0 = 0) ∨ (σ 6 (i / 4) 0 = 0 ∧ ym8 κ (i / 4)) → ykI σ (ym8 κ) (σ 5 (i / 4) (i % 4)))) ∧ ∀ S, ymS S q.2 → ykC σ S → ymS S (mf_l2s i q).2 := by
  have ho : i / 4 < 40 := by omega
  have hf : i % 4 < 4 := by omega
  have e5 : q.2 5 0 (i / 4) = σ 6 (i / 4) 0 := by rw [N.1 5 (by decide)]; exact R.r5 _ ho
  have e6 : q.2 6 0 (i / 4) = σ 7 (i / 4) 0 := by rw [N.1 6 (by decide)]; exact R.r6 _ ho
  have e7 : q.2 7 0 i = σ 5 (i / 4) (i % 4) := by
    have h := R.r7 (i / 4) ho (i % 4) hf
    rw [show i / 4 * 4 + i % 4 = i by omega] at h
    rw [N.1 7 (by decide)]
    exact h
  have hz := I.2.2.1 _ ho
  obtain ⟨N1, Z1, _, S1⟩ := ym_ks R (I.2.2.2.2.1 _ ho _ hf) N
  unfold mf_l2s
  rw [e5, e6, e7]
  by_cases h1 : 0 < σ 6 (i / 4) 0
  · have n0 : ¬ σ 6 (i / 4) 0 = 0 := fun p => by rw [p] at h1; exact absurd h1 (by decide)
    have n1 : ¬ σ 6 (i / 4) 0 = -1 := fun p => by rw [p] at h1; exact absurd h1 (by decide)
    rw [if_pos h1]
    by_cases h2 : σ 7 (i / 4) 0 ≤ nI (i % 4)
    · rw [if_pos h2]
      exact ⟨N, fun p => ⟨p, fun r => absurd h2 r⟩, fun S hS _ => hS⟩
    · rw [if_neg h2]
      exact ⟨N1, fun p => ⟨(Z1 p).1, fun _ _ => (Z1 p).2⟩, fun S hS hC => S1 S hS (hC.2.1 _ ho n1 n0 _ hf h2)⟩
  · rw [if_neg h1]
    by_cases h0 : σ 6 (i / 4) 0 = 0
    · rw [if_pos h0]
      by_cases h8 : q.2 8 0 (i / 4) = 0
      · rw [if_pos h8]
        refine ⟨N, fun p => ⟨p, fun _ r => ?_⟩, fun S hS _ => hS⟩
        rcases r with r | r
        · exact absurd h0 r.2
        · have := N.2.1 p
          rw [this] at h8
          exact absurd h8 r.2
      · rw [if_neg h8]
        by_cases h2 : σ 7 (i / 4) 0 ≤ nI (i % 4)
        · rw [if_pos h2]
          exact ⟨N, fun p => ⟨p, fun r => absurd h2 r⟩, fun S hS _ => hS⟩
        · rw [if_neg h2]
          exact ⟨N1, fun p => ⟨(Z1 p).1, fun _ _ => (Z1 p).2⟩, fun S hS hC => S1 S hS (hC.2.2 _ ho h0 (hS _ ho h8) _ hf h2)⟩
    · rw [if_neg h0]
      refine ⟨N, fun p => ⟨p, fun _ r => ?_⟩, fun S hS _ => hS⟩
      rcases r with r | r
      · exfalso
        have hv := z_ovin hz r.1
        apply h1
        rw [vp_in_iff] at hv
        rw [Int32.lt_iff_toInt_lt]
        have e : (0 : Int32).toInt = 0 := rfl
        have : ¬ (σ 6 (i / 4) 0).toInt = 0 := fun p => r.2 (Int32.toInt_inj.mp p)
        omega
      · exact absurd r.1 h0
theorem ym_l2 {σ ρ κ : zS} (R : zRel σ ρ) (I : xI σ) : ∀ (k i : Nat) (q : Int32 × zS), i + k = 160 → ymN ρ κ q → ymN ρ κ (mf_l2 k i q) ∧ ((mf_l2 k i q).1 = 0 → q.1 = 0 ∧ ∀ j, i ≤ j → j < 160 → (¬ σ 7 (j / 4) 0 ≤ nI (j % 4) → (¬ σ 6 (j / 4) 0 = -1 ∧ ¬ σ 6 (j / 4) 0 = 0) ∨ (σ 6 (j / 4) 0 = 0 ∧ ym8 κ (j / 4)) → ykI σ (ym8 κ) (σ 5 (j / 4) (j % 4)))) ∧ ∀ S, ymS S q.2 → ykC σ S → ymS S (mf_l2 k i q).2 := by
  intro k
  induction k with
  | zero =>
    intro i q hk N
    exact ⟨N, fun p => ⟨p, fun j _ _ => by omega⟩, fun S hS _ => hS⟩
  | succ k ih =>
    intro i q hk N
    unfold mf_l2
    obtain ⟨N1, Z1, S1⟩ := ym_l2s (i := i) R I (by omega) N
    obtain ⟨N2, Z2, S2⟩ := ih (i + 1) _ (by omega) N1
    refine ⟨N2, fun p => ?_, fun S hS hF => S2 S (S1 S hS hF) hF⟩
    obtain ⟨p1, p2⟩ := Z2 p
    obtain ⟨p3, p4⟩ := Z1 p1
    refine ⟨p3, fun j hj h4 => ?_⟩
    by_cases r : j = i
    · rw [r]; exact p4
    · exact p2 j (by omega) h4
theorem ym_round {σ ρ κ : zS} (R : zRel σ ρ) (I : xI σ) (h : ∀ f, f ≠ 8 → κ f = ρ f) : ymN ρ κ (mf_l2 160 0 (mf_l1 4 0 (0, κ))) ∧ ((mf_l2 160 0 (mf_l1 4 0 (0, κ))).1 = 0 → ykC σ (ym8 κ)) ∧ ∀ S, ymS S κ → ykC σ S → ymS S (mf_l2 160 0 (mf_l1 4 0 (0, κ))).2 := by
  have N0 : ymN ρ κ (0, κ) := ⟨h, fun _ => rfl, fun p => absurd rfl p, Nat.le_refl _⟩
  obtain ⟨N1, Z1, S1⟩ := ym_l1 R I 4 0 (0, κ) rfl N0
  generalize mf_l1 4 0 (0, κ) = q1 at N1 Z1 S1 ⊢
  obtain ⟨N2, Z2, S2⟩ := ym_l2 R I 160 0 q1 rfl N1
  generalize mf_l2 160 0 q1 = q2 at N2 Z2 S2 ⊢
  refine ⟨N2, fun p => ?_, fun S hS hC => S2 S (S1 S hS hC.1) hC⟩
  obtain ⟨p1, p2⟩ := Z2 p
  obtain ⟨-, p3⟩ := Z1 p1
  have key : ∀ o, o < 40 → ∀ f, f < 4 → ¬ σ 7 o 0 ≤ nI f → (¬ σ 6 o 0 = -1 ∧ ¬ σ 6 o 0 = 0) ∨ (σ 6 o 0 = 0 ∧ ym8 κ o) → ykI σ (ym8 κ) (σ 5 o f) := by
    intro o ho f hf
    have := p2 (o * 4 + f) (Nat.zero_le _) (by omega)
    rw [show (o * 4 + f) / 4 = o by omega, show (o * 4 + f) % 4 = f by omega] at this
    exact this
  exact ⟨fun k hk => p3 k (Nat.zero_le _) hk, fun o ho a b f hf c => key o ho f hf c (Or.inl ⟨a, b⟩), fun o ho a b f hf c => key o ho f hf c (Or.inr ⟨a, b⟩)⟩
theorem ym_l3 {σ ρ : zS} (R : zRel σ ρ) (I : xI σ) : ∀ (k : Nat) (q : Int32 × zS), (∀ f, f ≠ 8 → q.2 f = ρ f) → (q.1 = 0 → ykC σ (ym8 q.2)) → (¬ q.1 = 0 → 41 ≤ ym_cn q.2 + k) → (∀ f, f ≠ 8 → mf_l3 k q f = ρ f) ∧ ykC σ (ym8 (mf_l3 k q)) ∧ ∀ S, ymS S q.2 → ykC σ S → ymS S (mf_l3 k q) := by
  intro k
  induction k with
  | zero =>
    intro q h1 h2 h3
    have hc : ym_cn q.2 ≤ 40 := x_cn_le _
    have hz : q.1 = 0 := Decidable.byContradiction fun p => by have := h3 p; omega
    exact ⟨h1, h2 hz, fun S hS _ => hS⟩
  | succ k ih =>
    intro q h1 h2 h3
    unfold mf_l3
    by_cases h : q.1 = 0
    · rw [if_pos h]
      exact ⟨h1, h2 h, fun S hS _ => hS⟩
    · rw [if_neg h]
      obtain ⟨N, Z, S1⟩ := ym_round R I h1
      generalize mf_l2 160 0 (mf_l1 4 0 (0, q.2)) = q2 at N Z S1 ⊢
      obtain ⟨a, b, c⟩ := ih q2 N.1 (fun p => by rw [N.2.1 p]; exact Z p) (fun p => by have := N.2.2.1 p; have := h3 h; omega)
      exact ⟨a, b, fun S hS hC => c S (S1 S hS hC) hC⟩
theorem ym_l0_f {f : Nat} (hf : f ≠ 8) : ∀ (k i : Nat) (ρ : zS), mf_l0 k i ρ f = ρ f := by
  intro k
  induction k with
  | zero => intro i ρ; rfl
  | succ k ih =>
    intro i ρ
    unfold mf_l0
    rw [ih, z_f hf]
theorem ym_l0_8 : ∀ (k i : Nat) (ρ : zS) (a : Nat), mf_l0 k i ρ 8 0 a = if i ≤ a ∧ a < i + k then 0 else ρ 8 0 a := by
  intro k
  induction k with
  | zero => intro i ρ a; rw [if_neg (by omega)]; rfl
  | succ k ih =>
    intro i ρ a
    unfold mf_l0
    rw [ih, x_nar0]
    simp only [z_at]
    by_cases h : a = i
    · subst h
      rw [if_neg (by omega), if_pos (by simp), if_pos (by omega)]
    · by_cases h2 : i + 1 ≤ a ∧ a < i + 1 + k
      · rw [if_pos h2, if_pos (by omega)]
      · rw [if_neg h2, if_neg (by simp [h]), if_neg (by omega)]
theorem ym_found {σ ρ : zS} (R : zRel σ ρ) (I : xI σ) : (∀ f, f ≠ 8 → mf_l3 41 (1, mf_l0 40 0 ρ) f = ρ f) ∧ ykC σ (ym8 (mf_l3 41 (1, mf_l0 40 0 ρ))) ∧ ∀ S, ykC σ S → ymS S (mf_l3 41 (1, mf_l0 40 0 ρ)) := by
  obtain ⟨a, b, c⟩ := ym_l3 R I 41 (1, mf_l0 40 0 ρ) (fun f hf => ym_l0_f hf 40 0 ρ) (fun p => absurd (show (1 : Int32) = 0 from p) (by decide)) (fun _ => by omega)
  refine ⟨a, b, fun S hS => c S (fun i hi p => absurd ?_ p) hS⟩
  show mf_l0 40 0 ρ 8 0 i = 0
  rw [ym_l0_8, if_pos ⟨Nat.zero_le _, by omega⟩]
/-- both flag the same objects -/
theorem y_same {σ ρ : zS} (R : zRel σ ρ) (I : xI σ) {i : Nat} (hi : i < 40) : xf_findKept σ 8 i 0 = 0 ↔ mf_l3 41 (1, mf_l0 40 0 ρ) 8 0 i = 0 := by
  obtain ⟨-, b1, c1⟩ := yk_found I
  obtain ⟨-, b2, c2⟩ := ym_found R I
  have h1 := c1 _ b2 i hi
  have h2 := c2 _ b1 i hi
  unfold yk8 ym8 at h1 h2
  constructor
  · intro p
    exact Decidable.byContradiction fun q => h2 q p
  · intro p
    exact Decidable.byContradiction fun q => h1 q p
