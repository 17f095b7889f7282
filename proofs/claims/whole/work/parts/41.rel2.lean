theorem q_size {σ ρ : zS} {i0 : Nat} {v : Int32} (R : zRel σ ρ) : zRel (z_up σ 0 i0 0 v) (z_up ρ 1 0 i0 v) := by
  refine ⟨R.r0, ?_, R.r2, R.r3, R.r3b, R.r4, R.r5, R.r6, R.r7, R.r9, R.r10, R.r11, R.r12, R.r13, R.r14, R.r15⟩
  · intro i hi
    simp only [z_at]
    by_cases h : i = i0
    · simp [h]
    · simpa [h] using R.r1 i hi
theorem q_nA {σ ρ : zS} {v : Int32} (R : zRel σ ρ) : zRel (z_up σ 17 0 0 v) (z_up ρ 0 0 0 v) := by
  refine ⟨?_, R.r1, R.r2, R.r3, R.r3b, R.r4, R.r5, R.r6, R.r7, R.r9, R.r10, R.r11, R.r12, R.r13, R.r14, R.r15⟩
  · simp [z_at]
theorem q_ent {σ ρ : zS} {i0 : Nat} {v : Int32} (hp : ¬ v = 0 → ρ 3 0 i0 = σ 3 i0 0) (R : zRel σ ρ) : zRel (z_up σ 2 i0 0 v) (z_up ρ 2 0 i0 v) := by
  refine ⟨R.r0, R.r1, ?_, ?_, R.r3b, R.r4, R.r5, R.r6, R.r7, R.r9, R.r10, R.r11, R.r12, R.r13, R.r14, R.r15⟩
  · intro i hi
    simp only [z_at]
    by_cases h : i = i0
    · simp [h]
    · simpa [h] using R.r2 i hi
  · intro i hi
    simp only [z_at]
    by_cases h : i = i0
    · subst h
      simpa using hp
    · simpa [h] using R.r3 i hi
theorem q_par {σ ρ : zS} {i0 : Nat} {v : Int32} (hv : vp_in v 10) (R : zRel σ ρ) : zRel (z_up σ 3 i0 0 v) (z_up ρ 3 0 i0 v) := by
  refine ⟨R.r0, R.r1, R.r2, ?_, ?_, R.r4, R.r5, R.r6, R.r7, R.r9, R.r10, R.r11, R.r12, R.r13, R.r14, R.r15⟩
  · intro i hi h2
    simp only [z_at] at h2 ⊢
    by_cases h : i = i0
    · simp [h]
    · simpa [h] using R.r3 i hi (by simpa using h2)
  · intro i hi
    simp only [z_at]
    by_cases h : i = i0
    · simpa [h] using hv
    · simpa [h] using R.r3b i hi
theorem q_parX {σ ρ : zS} {i0 : Nat} {v : Int32} (h0 : σ 2 i0 0 = 0) (R : zRel σ ρ) : zRel (z_up σ 3 i0 0 v) ρ := by
  refine ⟨R.r0, R.r1, R.r2, ?_, R.r3b, R.r4, R.r5, R.r6, R.r7, R.r9, R.r10, R.r11, R.r12, R.r13, R.r14, R.r15⟩
  · intro i hi h2
    simp only [z_at] at h2 ⊢
    by_cases h : i = i0
    · subst h
      exact absurd h0 (by simpa using h2)
    · simpa [h] using R.r3 i hi (by simpa using h2)
theorem q_por {σ ρ : zS} {i0 : Nat} {v : Int32} (R : zRel σ ρ) : zRel (z_up σ 4 i0 0 v) (z_up ρ 4 0 i0 v) := by
  refine ⟨R.r0, R.r1, R.r2, R.r3, R.r3b, ?_, R.r5, R.r6, R.r7, R.r9, R.r10, R.r11, R.r12, R.r13, R.r14, R.r15⟩
  · intro i hi
    simp only [z_at]
    by_cases h : i = i0
    · simp [h]
    · simpa [h] using R.r4 i hi
theorem q_area {σ ρ : zS} {i0 : Nat} {v : Int32} (R : zRel σ ρ) : zRel (z_up σ 6 i0 0 v) (z_up ρ 5 0 i0 v) := by
  refine ⟨R.r0, R.r1, R.r2, R.r3, R.r3b, R.r4, ?_, R.r6, R.r7, R.r9, R.r10, R.r11, R.r12, R.r13, R.r14, R.r15⟩
  · intro i hi
    simp only [z_at]
    by_cases h : i = i0
    · simp [h]
    · simpa [h] using R.r5 i hi
theorem q_width {σ ρ : zS} {i0 : Nat} {v : Int32} (R : zRel σ ρ) : zRel (z_up σ 7 i0 0 v) (z_up ρ 6 0 i0 v) := by
  refine ⟨R.r0, R.r1, R.r2, R.r3, R.r3b, R.r4, R.r5, ?_, R.r7, R.r9, R.r10, R.r11, R.r12, R.r13, R.r14, R.r15⟩
  · intro i hi
    simp only [z_at]
    by_cases h : i = i0
    · simp [h]
    · simpa [h] using R.r6 i hi
theorem q_field {σ ρ : zS} {o0 f0 : Nat} {v : Int32} (hf0 : f0 < 4) (R : zRel σ ρ) : zRel (z_up σ 5 o0 f0 v) (z_up ρ 7 0 (o0 * 4 + f0) v) := by
  refine ⟨R.r0, R.r1, R.r2, R.r3, R.r3b, R.r4, R.r5, R.r6, ?_, R.r9, R.r10, R.r11, R.r12, R.r13, R.r14, R.r15⟩
  · intro o ho f hf
    simp only [z_at]
    by_cases h : o = o0 ∧ f = f0
    · simp [h.1, h.2]
    · rw [if_neg (by omega), if_neg (by omega)]
      exact R.r7 o ho f hf
theorem q_hl {σ ρ : zS} {t0 : Nat} {v : Int32} (R : zRel σ ρ) : zRel (z_up σ 13 t0 0 v) (z_up ρ 10 0 t0 v) := by
  refine ⟨R.r0, R.r1, R.r2, R.r3, R.r3b, R.r4, R.r5, R.r6, R.r7, R.r9, ?_, R.r11, R.r12, R.r13, R.r14, R.r15⟩
  · intro i hi
    simp only [z_at]
    by_cases h : i = t0
    · simp [h]
    · simpa [h] using R.r10 i hi
theorem q_at {σ ρ : zS} {t0 j0 : Nat} {v : Int32} (hj0 : j0 < 12) (R : zRel σ ρ) : zRel (z_up σ 9 t0 j0 v) (z_up ρ 12 0 (t0 * 12 + j0) v) := by
  refine ⟨R.r0, R.r1, R.r2, R.r3, R.r3b, R.r4, R.r5, R.r6, R.r7, R.r9, R.r10, R.r11, ?_, R.r13, R.r14, R.r15⟩
  · intro t ht j hj
    simp only [z_at]
    by_cases h : t = t0 ∧ j = j0
    · simp [h.1, h.2]
    · rw [if_neg (by omega), if_neg (by omega)]
      exact R.r12 t ht j hj
theorem q_un {σ ρ : zS} {t0 j0 : Nat} {v : Int32} (hj0 : j0 < 12) (R : zRel σ ρ) : zRel (z_up σ 10 t0 j0 v) (z_up ρ 13 0 (t0 * 12 + j0) v) := by
  refine ⟨R.r0, R.r1, R.r2, R.r3, R.r3b, R.r4, R.r5, R.r6, R.r7, R.r9, R.r10, R.r11, R.r12, ?_, R.r14, R.r15⟩
  · intro t ht j hj
    simp only [z_at]
    by_cases h : t = t0 ∧ j = j0
    · simp [h.1, h.2]
    · rw [if_neg (by omega), if_neg (by omega)]
      exact R.r13 t ht j hj
theorem q_en {σ ρ : zS} {t0 j0 : Nat} {v : Int32} (hj0 : j0 < 12) (R : zRel σ ρ) : zRel (z_up σ 11 t0 j0 v) (z_up ρ 14 0 (t0 * 12 + j0) v) := by
  refine ⟨R.r0, R.r1, R.r2, R.r3, R.r3b, R.r4, R.r5, R.r6, R.r7, R.r9, R.r10, R.r11, R.r12, R.r13, ?_, R.r15⟩
  · intro t ht j hj
    simp only [z_at]
    by_cases h : t = t0 ∧ j = j0
    · simp [h.1, h.2]
    · rw [if_neg (by omega), if_neg (by omega)]
      exact R.r14 t ht j hj
theorem q_len {σ ρ : zS} {t0 : Nat} {v : Int32} (hb : ρ 9 0 t0 = 0 ↔ v ≤ 0) (R : zRel σ ρ) : zRel (z_up σ 12 t0 0 v) (z_up ρ 11 0 t0 v) := by
  refine ⟨R.r0, R.r1, R.r2, R.r3, R.r3b, R.r4, R.r5, R.r6, R.r7, ?_, R.r10, ?_, R.r12, R.r13, R.r14, R.r15⟩
  · intro t ht
    simp only [z_at]
    by_cases h : t = t0
    · subst h
      simpa using hb
    · simpa [h] using R.r9 t ht
  · intro i hi
    simp only [z_at]
    by_cases h : i = t0
    · simp [h]
    · simpa [h] using R.r11 i hi
theorem q_len2 {σ ρ : zS} {t0 : Nat} {v b : Int32} (hb : b = 0 ↔ v ≤ 0) (R : zRel σ ρ) : zRel (z_up σ 12 t0 0 v) (z_up (z_up ρ 11 0 t0 v) 9 0 t0 b) := by
  refine ⟨R.r0, R.r1, R.r2, R.r3, R.r3b, R.r4, R.r5, R.r6, R.r7, ?_, R.r10, ?_, R.r12, R.r13, R.r14, R.r15⟩
  · intro t ht
    simp only [z_at]
    by_cases h : t = t0
    · subst h
      simpa using hb
    · simpa [h] using R.r9 t ht
  · intro i hi
    simp only [z_at]
    by_cases h : i = t0
    · simp [h]
    · simpa [h] using R.r11 i hi
theorem q_fix {σ ρ : zS} {k0 : Nat} {v : Int32} (R : zRel σ ρ) : zRel (z_up σ 14 0 k0 v) (z_up ρ 15 0 k0 v) := by
  refine ⟨R.r0, R.r1, R.r2, R.r3, R.r3b, R.r4, R.r5, R.r6, R.r7, R.r9, R.r10, R.r11, R.r12, R.r13, R.r14, ?_⟩
  · intro i hi
    simp only [z_at]
    by_cases h : i = k0
    · simp [h]
    · simpa [h] using R.r15 i hi
theorem q_x1 {σ ρ : zS} {i j : Nat} {v : Int32} (R : zRel σ ρ) : zRel (z_up σ 1 i j v) ρ := by
  exact ⟨R.r0, R.r1, R.r2, R.r3, R.r3b, R.r4, R.r5, R.r6, R.r7, R.r9, R.r10, R.r11, R.r12, R.r13, R.r14, R.r15⟩
theorem q_x8 {σ ρ : zS} {i j : Nat} {v : Int32} (R : zRel σ ρ) : zRel (z_up σ 8 i j v) ρ := by
  exact ⟨R.r0, R.r1, R.r2, R.r3, R.r3b, R.r4, R.r5, R.r6, R.r7, R.r9, R.r10, R.r11, R.r12, R.r13, R.r14, R.r15⟩
theorem q_x15 {σ ρ : zS} {i j : Nat} {v : Int32} (R : zRel σ ρ) : zRel (z_up σ 15 i j v) ρ := by
  exact ⟨R.r0, R.r1, R.r2, R.r3, R.r3b, R.r4, R.r5, R.r6, R.r7, R.r9, R.r10, R.r11, R.r12, R.r13, R.r14, R.r15⟩
theorem q_x16 {σ ρ : zS} {i j : Nat} {v : Int32} (R : zRel σ ρ) : zRel (z_up σ 16 i j v) ρ := by
  exact ⟨R.r0, R.r1, R.r2, R.r3, R.r3b, R.r4, R.r5, R.r6, R.r7, R.r9, R.r10, R.r11, R.r12, R.r13, R.r14, R.r15⟩
theorem q_x18 {σ ρ : zS} {i j : Nat} {v : Int32} (R : zRel σ ρ) : zRel (z_up σ 18 i j v) ρ := by
  exact ⟨R.r0, R.r1, R.r2, R.r3, R.r3b, R.r4, R.r5, R.r6, R.r7, R.r9, R.r10, R.r11, R.r12, R.r13, R.r14, R.r15⟩
theorem q_m8 {σ ρ : zS} {i j : Nat} {v : Int32} (R : zRel σ ρ) : zRel σ (z_up ρ 8 i j v) := by
  exact ⟨R.r0, R.r1, R.r2, R.r3, R.r3b, R.r4, R.r5, R.r6, R.r7, R.r9, R.r10, R.r11, R.r12, R.r13, R.r14, R.r15⟩
theorem z_comm {σ : zS} {f g i j i' j' : Nat} {v v' : Int32} (h : f ≠ g) : z_up (z_up σ f i j v) g i' j' v' = z_up (z_up σ g i' j' v') f i j v := by
  funext a b c
  simp only [z_at]
  by_cases h1 : a = g ∧ b = i' ∧ c = j'
  · rw [if_pos h1, if_neg (fun q => h (q.1.symm.trans h1.1)), if_pos h1]
  · rw [if_neg h1]
    by_cases h2 : a = f ∧ b = i ∧ c = j
    · rw [if_pos h2, if_pos h2]
    · rw [if_neg h2, if_neg h2, if_neg h1]
-- what is counted
def x_us (σ : zS) (a : Int32) : Nat → Nat
  | 0 => 0
  | k + 1 => x_us σ a k + (if σ 6 k 0 = a then 1 + z_ix (σ 7 k 0) else 0)
def x_ob (σ : zS) : Nat → Nat
  | 0 => 0
  | k + 1 => x_ob σ k + (if σ 6 k 0 = -1 then 0 else 1)
def x_e1 (σ : zS) (t : Nat) (a : Int32) : Nat → Nat
  | 0 => 0
  | j + 1 => x_e1 σ t a j + (if ¬ σ 11 t j = 0 ∧ σ 9 t j = a then 1 else 0)
def x_et (σ : zS) (a : Int32) (t : Nat) : Nat := x_e1 σ t a (z_ix (σ 12 t 0))
def x_es4 (σ : zS) (a : Int32) : Nat := x_et σ a 0 + x_et σ a 1 + x_et σ a 2 + x_et σ a 3
def jU (σ : zS) : Prop := ∀ a, a < 10 → σ 1 a 0 = nI (x_us σ (nI a) 40)
def jS (σ : zS) : Prop := ∀ a, a < 10 → vp_in (σ 0 a 0) 61
def jO (σ : zS) : Prop := σ 18 0 0 = nI (x_ob σ 40)
def jV (σ : zS) : Prop := ∀ t, t < 4 → ∀ j, j < z_ix (σ 12 t 0) → σ 10 t j = -1 ∨ ∃ v, v < j ∧ σ 10 t j = nI v
def jE (σ : zS) : Prop := ∀ a, a < 10 → σ 2 a 0 = nI (x_es4 σ (nI a))
def jN (σ : zS) : Prop := ∀ t, t < 4 → ∀ j, j < z_ix (σ 12 t 0) → ¬ σ 9 t j < 2 → ∃ j', j' ≤ j ∧ ¬ σ 11 t j' = 0 ∧ σ 9 t j' = σ 9 t j
def jP (σ : zS) : Prop := ∀ t, t < 4 → ∀ j, j < z_ix (σ 12 t 0) → ¬ σ 11 t j = 0 → ¬ σ 3 (z_ix (σ 9 t j)) 0 < 2 → ∃ j', j' < j ∧ σ 9 t j' = σ 3 (z_ix (σ 9 t j)) 0
def jA (σ : zS) : Prop := ∀ o, o < 40 → ¬ σ 6 o 0 < 2 → ¬ σ 2 (z_ix (σ 6 o 0)) 0 = 0
def jQ (σ : zS) : Prop := ∀ i, i < 10 → z_o 40 (σ 4 i 0)
def jB (σ : zS) : Prop := (∀ o, o < 40 → σ 6 o 0 < σ 17 0 0) ∧ ∀ t, t < 4 → ∀ j, j < 12 → σ 9 t j < σ 17 0 0
def zJ (σ : zS) : Prop := jU σ ∧ jS σ ∧ jO σ ∧ jV σ ∧ jE σ ∧ jN σ ∧ jP σ ∧ jA σ ∧ jQ σ ∧ jB σ
theorem x_e1_le {σ : zS} {t : Nat} {a : Int32} (k : Nat) : x_e1 σ t a k ≤ k := by
  induction k with
  | zero => exact Nat.le_refl _
  | succ k ih => unfold x_e1; split <;> omega
theorem x_e1_pos {σ : zS} {t j : Nat} {a : Int32} (h : ¬ σ 11 t j = 0) (h2 : σ 9 t j = a) : ∀ k, j < k → 0 < x_e1 σ t a k := by
  intro k
  induction k with
  | zero => intro q; omega
  | succ k ih =>
    intro q
    unfold x_e1
    by_cases hk : j = k
    · subst hk
      rw [if_pos ⟨h, h2⟩]
      omega
    · have := ih (by omega)
      omega
theorem x_e1_ex {σ : zS} {t : Nat} {a : Int32} : ∀ k, 0 < x_e1 σ t a k → ∃ j, j < k ∧ ¬ σ 11 t j = 0 ∧ σ 9 t j = a := by
  intro k
  induction k with
  | zero => intro q; exact absurd q (Nat.lt_irrefl 0)
  | succ k ih =>
    intro q
    unfold x_e1 at q
    by_cases h : ¬ σ 11 t k = 0 ∧ σ 9 t k = a
    · exact ⟨k, by omega, h.1, h.2⟩
    · rw [if_neg h] at q
      obtain ⟨j, h1, h2⟩ := ih (by omega)
      exact ⟨j, by omega, h2⟩
theorem x_len12 {σ : zS} {t : Nat} (I : xI σ) (ht : t < 4) : z_ix (σ 12 t 0) ≤ 12 := by
  have h : z_ix (σ 12 t 0) < 13 := z_vlt (I.2.2.2.2.2.1 t ht)
  omega
theorem x_es4_lt {σ : zS} {a : Int32} (I : xI σ) : x_es4 σ a ≤ 48 := by
  have h : ∀ t, t < 4 → x_et σ a t ≤ 12 := fun t ht => Nat.le_trans (x_e1_le _) (x_len12 I ht)
  have h0 := h 0 (by decide)
  have h1 := h 1 (by decide)
  have h2 := h 2 (by decide)
  have h3 := h 3 (by decide)
  unfold x_es4
  omega
theorem x_es4_pos {σ : zS} {a : Int32} {t : Nat} (ht : t < 4) (h : 0 < x_et σ a t) : 0 < x_es4 σ a := by
  unfold x_es4
  match t, ht with
  | 0, _ => omega
  | 1, _ => omega
  | 2, _ => omega
  | 3, _ => omega
theorem x_es4_ex {σ : zS} {a : Int32} (h : 0 < x_es4 σ a) : ∃ t, t < 4 ∧ 0 < x_et σ a t := by
  unfold x_es4 at h
  by_cases h0 : 0 < x_et σ a 0
  · exact ⟨0, by decide, h0⟩
  · by_cases h1 : 0 < x_et σ a 1
    · exact ⟨1, by decide, h1⟩
    · by_cases h2 : 0 < x_et σ a 2
      · exact ⟨2, by decide, h2⟩
      · exact ⟨3, by decide, by omega⟩
theorem nI_z {n : Nat} (h : n < 2 ^ 31) : nI n = 0 ↔ n = 0 := nI_eq (b := 0) h (by decide)
/-- a scope has entries just where some step was made by enter with it -/
theorem x_live {σ : zS} (I : xI σ) (J : jE σ) {a : Int32} (ha : vp_in a 10) : ¬ σ 2 (z_ix a) 0 = 0 ↔ ∃ t, t < 4 ∧ ∃ j, j < z_ix (σ 12 t 0) ∧ ¬ σ 11 t j = 0 ∧ σ 9 t j = a := by
  obtain ⟨k, hk, e⟩ := vp_in_of ha (by decide)
  have hz : z_ix a = k := by rw [e]; exact nI_clamp (by omega)
  rw [hz, J k hk, nI_z (by have := x_es4_lt (σ := σ) (a := nI k) I; omega), ← e]
  constructor
  · intro h
    obtain ⟨t, ht, h1⟩ := x_es4_ex (Nat.pos_of_ne_zero h)
    obtain ⟨j, h2, h3⟩ := x_e1_ex _ h1
    exact ⟨t, ht, j, h2, h3⟩
  · rintro ⟨t, ht, j, hj, h1, h2⟩
    have := x_es4_pos ht (show 0 < x_et σ a t from x_e1_pos h1 h2 _ hj)
    omega
/-- the area of a step is no scope, or one with entries -/
theorem x_step_live {σ : zS} (I : xI σ) (J : jE σ) (JN : jN σ) {t j : Nat} (ht : t < 4) (hj : j < z_ix (σ 12 t 0)) (h : ¬ σ 9 t j < 2) : ¬ σ 2 (z_ix (σ 9 t j)) 0 = 0 := by
  have hl := x_len12 I ht
  obtain ⟨j', h1, h2, h3⟩ := JN t ht j hj h
  exact (x_live I J (I.2.2.2.2.2.2.2.1 t ht j (by omega))).mpr ⟨t, ht, j', by omega, h2, h3⟩
theorem x_par_live {σ : zS} (I : xI σ) (J : zJ σ) {a : Int32} (ha : vp_in a 10) (h : ¬ σ 2 (z_ix a) 0 = 0) (h2 : ¬ σ 3 (z_ix a) 0 < 2) : ¬ σ 2 (z_ix (σ 3 (z_ix a) 0)) 0 = 0 := by
  obtain ⟨t, ht, j, hj, h3, h4⟩ := (x_live I J.2.2.2.2.1 ha).mp h
  obtain ⟨j', h5, h6⟩ := J.2.2.2.2.2.2.1 t ht j hj h3 (by rw [h4]; exact h2)
  rw [h4] at h6
  rw [← h6]
  exact x_step_live I J.2.2.2.2.1 J.2.2.2.2.2.1 ht (by omega) (by rw [h6]; exact h2)
theorem x_lt2_scope {σ : zS} {a : Int32} (h : a < 2) : xf_isScope σ a = 0 := by
  unfold xf_isScope
  rw [if_pos h]
/-- an area with entries is the area of a step, so it has been made -/
theorem x_live_scope {σ : zS} (I : xI σ) (J : zJ σ) {a : Int32} (ha : vp_in a 10) (h2 : ¬ a < 2) (h : ¬ σ 2 (z_ix a) 0 = 0) : ¬ xf_isScope σ a = 0 := by
  obtain ⟨t, ht, j, hj, _, h4⟩ := (x_live I J.2.2.2.2.1 ha).mp h
  have hl := x_len12 I ht
  have hb := J.2.2.2.2.2.2.2.2.2.2 t ht j (by omega)
  rw [h4] at hb
  have h3 : ¬ xf_isArea σ a = 0 := by
    unfold xf_isArea
    rw [if_neg (i_2_0 h2), if_neg (i_nle.mpr hb)]
    decide
  unfold xf_isScope
  rw [if_neg h2, if_neg h3]
  decide
theorem l_li {σ ρ : zS} (R : zRel σ ρ) (I : xI σ) (J : zJ σ) {z : Int32} : ∀ (k : Nat) (q : Int32), z_o 10 q → (¬ q < 2 → ¬ σ 2 (z_ix q) 0 = 0) → mf_li ρ z k q = xf_li σ z k q := by
  intro k
  induction k with
  | zero => intro q _ _; rfl
  | succ k ih =>
    intro q hq hl
    unfold mf_li xf_li
    by_cases h : q < 2
    · rw [if_pos (i_le1.mpr h), if_pos (x_lt2_scope h)]
    · have hv := x_ge2 hq h
      rw [if_neg (fun p => h (i_le1.mp p)), if_neg (x_live_scope I J hv h (hl h))]
      split
      · rfl
      · rw [R.r3 _ (z_vlt hv) (hl h)]
        exact ih _ (Or.inr (I.2.1 _ (z_vlt hv))) (fun h2 => x_par_live I J hv (hl h) h2)
theorem l_mayPoint {σ ρ : zS} (R : zRel σ ρ) (I : xI σ) (J : zJ σ) {a o : Int32} (ha : z_o 10 a) (hl : ¬ a < 2 → ¬ σ 2 (z_ix a) 0 = 0) (ho : vp_in o 40) (hob : ¬ σ 6 (z_ix o) 0 = -1) : mf_mayPoint ρ a o = xf_mayPointTo σ a o := by
  unfold mf_mayPoint xf_mayPointTo mf_liesIn xf_liesIn
  rw [R.r5 _ (z_vlt ho), l_li R I J 10 a ha hl]
  have hz := z_ovin (I.2.2.1 _ (z_vlt ho)) hob
  obtain ⟨k, hk, e⟩ := vp_in_of hz (by decide)
  have e' : σ 6 (z_ix o) 0 = nI k := e
  rw [e']
  by_cases h0 : k = 0
  · subst h0
    rw [if_pos (by decide), if_pos (by decide)]
  · by_cases h1 : k = 1
    · subst h1
      rw [if_pos (by decide), if_neg (by decide), if_pos (by decide)]
    · have n0 : ¬ nI k = 0 := fun q => h0 ((nI_z (by omega)).mp q)
      have n1 : ¬ nI k = 1 := fun q => h1 ((nI_eq (b := 1) (by omega) (by decide)).mp q)
      have n2 : ¬ nI k < 2 := nI_nlt (a := k) (b := 2) (by omega) (by omega)
      rw [if_neg n2, if_neg n0, if_neg n1]
      by_cases h3 : a ≤ 1
      · rw [if_pos h3]
        unfold xf_li
        rw [if_pos (x_lt2_scope (i_le1.mp h3)), if_pos rfl]
      · rw [if_neg h3]
theorem l_us {σ ρ : zS} (R : zRel σ ρ) (I : xI σ) {a : Int32} : ∀ (k i : Nat) (q : Nat), i + k = 40 → q = x_us σ a i → mf_us ρ a k i (nI q) = nI (x_us σ a 40) := by
  intro k
  induction k with
  | zero =>
    intro i q hi hq
    obtain rfl : i = 40 := by omega
    rw [hq]
    rfl
  | succ k ih =>
    intro i q hi hq
    unfold mf_us
    rw [R.r5 i (by omega), R.r6 i (by omega)]
    by_cases h : σ 6 i 0 = a
    · rw [if_pos h]
      obtain ⟨b, hb, e⟩ := vp_in_of (I.2.2.2.1 i (by omega)) (by decide)
      rw [e, show (1 : Int32) = nI 1 from rfl, nI_add, nI_add]
      refine ih (i + 1) _ (by omega) ?_
      unfold x_us
      rw [if_pos h, hq, e, show z_ix (nI b) = b from nI_clamp (by omega)]
    · rw [if_neg h]
      exact ih (i + 1) q (by omega) (by unfold x_us; rw [if_neg h]; omega)
theorem l_used {σ ρ : zS} (R : zRel σ ρ) (I : xI σ) (J : zJ σ) {a : Int32} (ha : vp_in a 10) : mf_used ρ a = σ 1 (z_ix a) 0 := by
  obtain ⟨k, hk, e⟩ := vp_in_of ha (by decide)
  have h := l_us R I (a := a) 40 0 0 rfl rfl
  unfold mf_used
  rw [show (0 : Int32) = nI 0 from rfl, h, e, show z_ix (nI k) = k from nI_clamp (by omega)]
  exact (J.1 k hk).symm
-- what is read
theorem e_portal {σ ρ : zS} (R : zRel σ ρ) (I : xI σ) {t z : Int32} (hp : ∀ i, i < 10 → z_o 40 (σ 4 i 0)) : mf_portal ρ t z = xf_portal σ t z := by
  unfold mf_portal xf_portal
  simp only [l_idle R, l_noScope R]
  by_cases h1 : xf_isBegun σ t = 0
  · simp [h1]
  · have ht := x_begun_thr h1
    by_cases h2 : xf_isScope σ z = 0
    · simp [h1, h2]
    · have hz := x_scope_in I h2
      simp only [l_inView R I ht]
      by_cases h3 : xf_hasInView σ (z_ix t) z = 0
      · simp [h1, h2, h3]
      · rw [R.r4 _ (z_vlt hz)]
        have h4 := z_ole (hp _ (z_vlt hz))
        have h4 : 0 ≤ σ 4 (z_ix z) 0 ↔ ¬ σ 4 (z_ix z) 0 = -1 := h4
        unfold xf_objectOrNull
        by_cases h5 : σ 4 (z_ix z) 0 = -1
        · simp [h1, h2, h3, h4, h5]
        · simp [h1, h2, h3, h4, h5]
theorem e_areaOf {σ ρ : zS} (R : zRel σ ρ) (I : xI σ) {o : Int32} : mf_areaOf ρ o = xf_areaOf σ o := by
  unfold mf_areaOf xf_areaOf
  simp only [l_noObject R I]
  by_cases h1 : xf_isObject σ o = 0
  · simp [h1]
  · simp only [h1, not_false_eq_true, if_true, if_false]
    exact R.r5 _ (z_vlt (x_obj h1))
theorem e_room {σ ρ : zS} (R : zRel σ ρ) (I : xI σ) (J : zJ σ) {a : Int32} : mf_room ρ a = xf_room σ a := by
  unfold mf_room xf_room xf_free
  simp only [l_noArea R]
  by_cases h1 : xf_isArea σ a = 0
  · simp [h1]
  · have ha := x_area_in I h1
    simp only [h1, not_false_eq_true, if_true, if_false]
    rw [l_used R I J ha, R.r1 _ (z_vlt ha)]
theorem e_entries {σ ρ : zS} (R : zRel σ ρ) (I : xI σ) {z : Int32} : mf_entries ρ z = xf_entries σ z := by
  unfold mf_entries xf_entries
  simp only [l_noScope R]
  by_cases h1 : xf_isScope σ z = 0
  · simp [h1]
  · simp only [h1, not_false_eq_true, if_true, if_false]
    exact R.r2 _ (z_vlt (x_scope_in I h1))
theorem x_ent_nn {σ : zS} (I : xI σ) (J : zJ σ) {a : Nat} (ha : a < 10) : σ 2 a 0 ≤ 0 ↔ σ 2 a 0 = 0 := by
  have hl := x_es4_lt (σ := σ) (a := nI a) I
  rw [J.2.2.2.2.1 a ha, nI_z (by omega)]
  constructor
  · intro h
    have := (nI_leI (b := 0) (by omega) (by decide)).mp h
    omega
  · intro h
    rw [h]
    decide
theorem e_parent {σ ρ : zS} (R : zRel σ ρ) (I : xI σ) (J : zJ σ) {z : Int32} : mf_parent ρ z = xf_parent σ z := by
  unfold mf_parent xf_parent
  simp only [l_noScope R]
  by_cases h1 : xf_isScope σ z = 0
  · simp [h1]
  · have hz : z_ix z < 10 := z_vlt (x_scope_in I h1)
    simp only [h1, not_false_eq_true, if_true, if_false]
    rw [R.r2 _ hz]
    simp only [x_ent_nn I J hz]
    by_cases h2 : σ 2 (z_ix z) 0 = 0
    · simp [h2]
    · simp only [h2, if_false]
      exact R.r3 _ hz h2
theorem e_get {σ ρ : zS} (R : zRel σ ρ) (I : xI σ) {t o f : Int32} : mf_get ρ t o f = xf_get σ t o f := by
  unfold mf_get xf_get xf_hasField
  simp only [l_idle R, l_noObject R I]
  by_cases h1 : xf_isBegun σ t = 0
  · simp [h1]
  · have ht := x_begun_thr h1
    by_cases h2 : xf_isObject σ o = 0
    · simp [h1, h2]
    · have ho := x_obj h2
      by_cases h3 : f < 0
      · simp [h1, h2, h3]
      · rw [R.r6 _ (z_vlt ho)]
        by_cases h4 : f < σ 7 (z_ix o) 0
        · have h5 : ¬ σ 7 (z_ix o) 0 ≤ f := i_nle.mpr h4
          have hf : vp_in f 4 := by
            have h7 : vp_in (σ 7 (z_ix o) 0) 5 := I.2.2.2.1 _ (z_vlt ho)
            rw [vp_in_iff] at h7 ⊢
            rw [Int32.lt_iff_toInt_lt, Int32.toInt_zero] at h3
            rw [Int32.lt_iff_toInt_lt] at h4
            omega
          rw [l_sees R I ht ho, m_ixv4 ho hf, R.r7 _ (z_vlt ho) _ (z_vlt hf)]
          have hh : z_o 40 (σ 5 (z_ix o) (z_ix f)) := I.2.2.2.2.1 _ (z_vlt ho) _ (z_vlt hf)
          have h6 := z_ole hh
          by_cases h7 : xf_sees σ t o = 0
          · simp [h1, h2, h3, h4, h5, h7]
          · by_cases h8 : σ 5 (z_ix o) (z_ix f) = -1
            · simp [h1, h2, h3, h4, h5, h7, h8]
            · have h9 := h6.mpr h8
              rw [l_sees R I ht (z_ovin hh h8)]
              simp [h1, h2, h3, h4, h5, h7, h8, h9]
        · have h5 : σ 7 (z_ix o) 0 ≤ f := i_nlt.mp h4
          simp [h1, h2, h3, h4, h5]

