theorem zRel_c {σ σ' ρ ρ' : zS} (h : ∀ f, f ≠ 8 → f ≠ 15 → f ≠ 16 → σ' f = σ f) (g : ∀ f, f ≠ 8 → ρ' f = ρ f) (R : zRel σ ρ) : zRel σ' ρ' := by
  unfold zRel
  rw [g 0 (by decide), g 1 (by decide), g 2 (by decide), g 3 (by decide), g 4 (by decide), g 5 (by decide), g 6 (by decide), g 7 (by decide), g 9 (by decide), g 10 (by decide), g 11 (by decide), g 12 (by decide), g 13 (by decide), g 14 (by decide), g 15 (by decide)]
  rw [h 17 (by decide) (by decide) (by decide), h 0 (by decide) (by decide) (by decide), h 2 (by decide) (by decide) (by decide), h 3 (by decide) (by decide) (by decide), h 4 (by decide) (by decide) (by decide), h 6 (by decide) (by decide) (by decide), h 7 (by decide) (by decide) (by decide), h 5 (by decide) (by decide) (by decide), h 12 (by decide) (by decide) (by decide), h 13 (by decide) (by decide) (by decide), h 9 (by decide) (by decide) (by decide), h 10 (by decide) (by decide) (by decide), h 11 (by decide) (by decide) (by decide), h 14 (by decide) (by decide) (by decide)]
  exact R
theorem y_kept {σ ρ : zS} (O : zOk σ ρ) : zOk (xf_findKept σ) (mf_l3 41 (1, mf_l0 40 0 ρ)) := by
  obtain ⟨I, J, R⟩ := O
  have h := (yk_found I).1.1
  have g := (ym_found R I).1
  refine ⟨(x_findKept_IF I).1, ?_, zRel_c h g R⟩
  refine zJ_c J ?_ ?_ ?_ ?_ ?_ ?_ ?_ ?_ ?_ ?_ ?_ ?_ ?_ <;> (apply h <;> decide)
theorem y_drop_f {σ : zS} {o : Int32} {f : Nat} (h1 : f ≠ 1) (h6 : f ≠ 6) (h18 : f ≠ 18) : xf_drop σ o f = σ f := by
  unfold xf_drop
  rw [z_f h18, z_f h6, z_f h1]
theorem y_i32 {n a b c : Int32} (h : a + b = (n + 1) + (c - 1)) : a + b = n + c := by
  rw [h]
  rw [Int32.add_assoc, Int32.add_comm 1 (c - 1), Int32.sub_add_cancel]
theorem y_co : ∀ (k i : Nat) (σ ρ : zS) (n : Int32), i + k = 40 → zOk σ ρ → (∀ j, j < 40 → (σ 8 j 0 = 0 ↔ ρ 8 0 j = 0)) → zOk (xf_co k i σ) (mf_cl k i (n, ρ)).2 ∧ (mf_cl k i (n, ρ)).1 + (xf_co k i σ) 18 0 0 = n + σ 18 0 0 := by
  intro k
  induction k with
  | zero => intro i σ ρ n _ O _; exact ⟨O, rfl⟩
  | succ k ih =>
    intro i σ ρ n hk O h8
    obtain ⟨I, J, R⟩ := id O
    unfold xf_co mf_cl
    show zOk (xf_co k (i + 1) _) (mf_cl k (i + 1) (if ρ 5 0 i = 0 then (if ρ 8 0 i = 0 then (n + 1, z_up ρ 5 0 i (-1)) else (n, ρ)) else (n, ρ))).2 ∧ (mf_cl k (i + 1) (if ρ 5 0 i = 0 then (if ρ 8 0 i = 0 then (n + 1, z_up ρ 5 0 i (-1)) else (n, ρ)) else (n, ρ))).1 + xf_co k (i + 1) _ 18 0 0 = _
    rw [R.r5 i (by omega)]
    by_cases h : σ 6 i 0 = 0
    · rw [if_pos h, if_pos h]
      by_cases h2 : σ 8 i 0 = 0
      · rw [if_pos h2, if_pos ((h8 i (by omega)).mp h2)]
        obtain ⟨I1, J1, R1, h6, h18⟩ := d_drop I J.to0 R (k := i) (by omega) (by rw [h]; unfold vp_in; decide)
        have O1 : zOk (xf_drop σ (nI i)) (z_up ρ 5 0 i (-1)) := by
          refine ⟨I1, J1.with (fun o ho b => ?_), R1⟩
          rw [h6] at b ⊢
          rw [y_drop_f (by decide) (by decide) (by decide)]
          by_cases q : o = i
          · rw [if_pos q] at b
            exact absurd (by decide) b
          · rw [if_neg q] at b ⊢
            exact J.2.2.2.2.2.2.2.1 o ho b
        obtain ⟨O2, e⟩ := ih (i + 1) _ _ (n + 1) (by omega) O1 (fun j hj => by
          rw [y_drop_f (by decide) (by decide) (by decide), z_f (by decide)]
          exact h8 j hj)
        refine ⟨O2, ?_⟩
        rw [h18] at e
        exact y_i32 e
      · rw [if_neg h2, if_neg (fun q => h2 ((h8 i (by omega)).mpr q))]
        exact ih (i + 1) _ _ n (by omega) O h8
    · rw [if_neg h, if_neg h]
      exact ih (i + 1) _ _ n (by omega) O h8
theorem s_collect {σ ρ : zS} (O : zOk σ ρ) : zEq (xf_collect σ) (mf_cl 40 0 (0, mf_l3 41 (1, mf_l0 40 0 ρ))) := by
  have O1 := y_kept O
  have h8 := fun (j : Nat) (hj : j < 40) => y_same O.2.2 O.1 hj
  unfold xf_collect
  generalize xf_findKept σ = τ at O1 h8 ⊢
  generalize mf_l3 41 (1, mf_l0 40 0 ρ) = κ at O1 h8 ⊢
  obtain ⟨a, b⟩ := y_co 40 0 τ κ 0 rfl O1 h8
  generalize mf_cl 40 0 (0, κ) = q at a b ⊢
  generalize xf_co 40 0 τ = T at a b ⊢
  refine ⟨?_, a⟩
  show q.1 = τ 18 0 0 - T 18 0 0
  rw [Int32.zero_add] at b
  rw [← b, Int32.add_sub_cancel]
theorem l_no {σ ρ : zS} (R : zRel σ ρ) (I : xI σ) : ∀ (k i : Nat) (q : Nat), i + k = 40 → q = x_ob σ i → mf_no ρ k i (nI q) = nI (x_ob σ 40) := by
  intro k
  induction k with
  | zero =>
    intro i q hi hq
    obtain rfl : i = 40 := by omega
    rw [hq]
    rfl
  | succ k ih =>
    intro i q hi hq
    unfold mf_no
    rw [R.r5 i (by omega)]
    have h1 := z_olt (I.2.2.1 i (by omega))
    by_cases h : σ 6 i 0 = -1
    · rw [if_pos (h1.mpr h)]
      exact ih (i + 1) q (by omega) (by unfold x_ob; rw [if_pos h]; omega)
    · rw [if_neg (fun p => h (h1.mp p)), nI_1]
      exact ih (i + 1) _ (by omega) (by unfold x_ob; rw [if_neg h, hq])
theorem l_nb {σ ρ : zS} (R : zRel σ ρ) : ∀ (k i : Nat) (n : Int32), i + k = 4 → mf_nb ρ k i n = xf_bt σ k i n := by
  intro k
  induction k with
  | zero => intro i n _; rfl
  | succ k ih =>
    intro i n hi
    unfold mf_nb xf_bt
    have hz : z_ix (nI i) = i := nI_clamp (by omega)
    have hb : xf_isBegun σ (nI i) = 0 ↔ ρ 9 0 i = 0 := by
      unfold xf_isBegun xf_isThread
      rw [hz, R.r9 i (by omega)]
      have n0 : ¬ nI i < 0 := nI_nlt (b := 0) (by omega) (by omega)
      have n4 : ¬ (4 : Int32) ≤ nI i := fun q => by
        have := (nI_leI (a := 4) (by decide) (by omega)).mp q
        omega
      rw [if_neg n0, if_neg n4, if_neg (by decide)]
      by_cases h : σ 12 i 0 ≤ 0
      · simp [h]
      · simp [h]
    simp only [hb]
    exact ih (i + 1) _ (by omega)
theorem l_kc {κ : zS} : ∀ (k i : Nat) (q : Nat), i + k = 40 → q = x_cn (ymT κ) i → mf_kc κ k i (nI q) = nI (x_cn (ymT κ) 40) := by
  intro k
  induction k with
  | zero =>
    intro i q hi hq
    obtain rfl : i = 40 := by omega
    rw [hq]
    rfl
  | succ k ih =>
    intro i q hi hq
    unfold mf_kc
    by_cases h : κ 8 0 i = 0
    · rw [if_pos h]
      exact ih (i + 1) q (by omega) (by unfold x_cn; rw [if_pos (show ymT κ 8 i 0 = 0 from h)]; omega)
    · rw [if_neg h, nI_1]
      exact ih (i + 1) _ (by omega) (by unfold x_cn; rw [if_neg (show ¬ ymT κ 8 i 0 = 0 from h), hq])
theorem l_cn {τ κ : zS} (h : ∀ j, j < 40 → (τ 8 j 0 = 0 ↔ κ 8 0 j = 0)) : ∀ k, k ≤ 40 → x_cn τ k = x_cn (ymT κ) k := by
  intro k
  induction k with
  | zero => intro _; rfl
  | succ k ih =>
    intro hk
    unfold x_cn
    rw [ih (by omega)]
    have := h k (by omega)
    by_cases q : τ 8 k 0 = 0
    · rw [if_pos q, if_pos (show ymT κ 8 k 0 = 0 from this.mp q)]
    · rw [if_neg q, if_neg (show ¬ ymT κ 8 k 0 = 0 from fun p => q (this.mpr p))]
theorem l_stat {σ ρ : zS} (R : zRel σ ρ) (I : xI σ) {k : Nat} (hk : k < 4) : (if 0 ≤ ρ 15 0 k then ρ 15 0 k else -6) = xf_objectOrNull (σ 14 0 k) := by
  rw [R.r15 k hk]
  unfold xf_objectOrNull
  have h := z_ole (I.2.2.2.2.2.2.2.2.1 k hk)
  by_cases q : σ 14 0 k = -1
  · rw [if_neg (fun p => h.mp p q), if_pos q]
  · rw [if_pos (h.mpr q), if_neg q]
theorem s_count {σ ρ : zS} (O : zOk σ ρ) {w : Int32} : zEq (xf_count σ w) (mf_count ρ w) := by
  obtain ⟨I, J, R⟩ := id O
  unfold xf_count mf_count
  by_cases h0 : w = 0
  · rw [if_pos h0, if_pos h0]
    refine ⟨?_, O⟩
    show mf_no ρ 40 0 0 = σ 18 0 0
    rw [show (0 : Int32) = nI 0 from rfl, l_no R I 40 0 0 rfl rfl]
    exact J.2.2.1.symm
  · rw [if_neg h0, if_neg h0]
    by_cases h1 : w = 1
    · rw [if_pos h1, if_neg (show ¬ w = 2 by rw [h1]; decide), if_pos h1]
      exact ⟨R.r0, O⟩
    · rw [if_neg h1]
      by_cases h2 : w = 2
      · rw [if_pos h2, if_pos h2]
        exact ⟨l_nb R 4 0 0 rfl, O⟩
      · rw [if_neg h2, if_neg h2, if_neg h1]
        by_cases h3 : w = 3
        · rw [if_pos h3, if_pos h3]
          unfold mf_keep mf_keepS
          have O1 := y_kept O
          have h8 := fun (j : Nat) (hj : j < 40) => y_same R I hj
          have hF := (x_findKept_IF I).2
          generalize xf_findKept σ = τ at O1 h8 hF ⊢
          generalize mf_l3 41 (1, mf_l0 40 0 ρ) = κ at O1 h8 ⊢
          refine ⟨?_, O1⟩
          show mf_kc κ 40 0 0 = τ 16 0 0
          rw [show (0 : Int32) = nI 0 from rfl, l_kc 40 0 0 rfl rfl, hF.1, l_cn h8 40 (Nat.le_refl _)]
        · rw [if_neg h3, if_neg h3]
          by_cases h4 : w = 4
          · subst h4
            rw [if_pos rfl, if_neg (by decide), if_neg (by decide), show z_ix ((4 : Int32) - 4) = 0 by decide, l_stat R I (by decide)]
            exact ⟨rfl, O⟩
          · rw [if_neg h4]
            by_cases h5 : w = 5
            · subst h5
              rw [if_pos rfl, if_neg (by decide), if_neg (by decide), show z_ix ((5 : Int32) - 4) = 1 by decide, l_stat R I (by decide)]
              exact ⟨rfl, O⟩
            · rw [if_neg h5]
              by_cases h6 : w = 6
              · subst h6
                rw [if_pos rfl, if_neg (by decide), if_neg (by decide), show z_ix ((6 : Int32) - 4) = 2 by decide, l_stat R I (by decide)]
                exact ⟨rfl, O⟩
              · rw [if_neg h6]
                by_cases h7 : w = 7
                · subst h7
                  rw [if_pos rfl, if_neg (by decide), if_neg (by decide), show z_ix ((7 : Int32) - 4) = 3 by decide, l_stat R I (by decide)]
                  exact ⟨rfl, O⟩
                · rw [if_neg h7]
                  by_cases g1 : w ≤ 3
                  · rw [if_pos g1]
                    exact ⟨rfl, O⟩
                  · rw [if_neg g1]
                    by_cases g2 : 8 ≤ w
                    · rw [if_pos g2]
                      exact ⟨rfl, O⟩
                    · exfalso
                      rw [Int32.le_iff_toInt_le] at g1 g2
                      have e3 : (3 : Int32).toInt = 3 := rfl
                      have e8 : (8 : Int32).toInt = 8 := rfl
                      have n4 : ¬ w.toInt = 4 := fun p => h4 (Int32.toInt_inj.mp p)
                      have n5 : ¬ w.toInt = 5 := fun p => h5 (Int32.toInt_inj.mp p)
                      have n6 : ¬ w.toInt = 6 := fun p => h6 (Int32.toInt_inj.mp p)
                      have n7 : ¬ w.toInt = 7 := fun p => h7 (Int32.toInt_inj.mp p)
                      omega
