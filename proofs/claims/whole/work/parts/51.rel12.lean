-- the start
theorem x0_at {h im : Int32} {f i j : Nat} : x0 h im f i j = if f = 17 ∧ i = 0 ∧ j = 0 then 2 else if f = 0 ∧ i = 1 ∧ j = 0 then xf_clampBaseSize im else if f = 0 ∧ i = 0 ∧ j = 0 then xf_clampBaseSize h else if f = 14 ∧ i = 0 ∧ j = 3 then -1 else if f = 14 ∧ i = 0 ∧ j = 2 then -1 else if f = 14 ∧ i = 0 ∧ j = 1 then -1 else if f = 14 ∧ i = 0 ∧ j = 0 then -1 else xs0 f i j := rfl
theorem x0_o {h im : Int32} {f : Nat} (h0 : f ≠ 0) (h14 : f ≠ 14) (h17 : f ≠ 17) : x0 h im f = xs0 f := by
  funext i j
  rw [x0_at]
  simp only [h0, h14, h17, false_and, if_false]
theorem x0_14 {h im : Int32} {j : Nat} (hj : j < 4) : x0 h im 14 0 j = -1 := by
  rw [x0_at]
  match j, hj with
  | 0, _ => rfl
  | 1, _ => rfl
  | 2, _ => rfl
  | 3, _ => rfl
theorem mfil_at {f f' a b : Nat} : ∀ (k i : Nat) (σ : zS), mfil f k i σ f' a b = if f' = f ∧ a = 0 ∧ i ≤ b ∧ b < i + k then -1 else σ f' a b := by
  intro k
  induction k with
  | zero => intro i σ; rw [if_neg (by omega)]; rfl
  | succ k ih =>
    intro i σ
    unfold mfil
    rw [ih, z_at]
    by_cases h1 : f' = f ∧ a = 0 ∧ i + 1 ≤ b ∧ b < i + 1 + k
    · rw [if_pos h1, if_pos ⟨h1.1, h1.2.1, by omega, by omega⟩]
    · rw [if_neg h1]
      by_cases h2 : f' = f ∧ a = 0 ∧ b = i
      · rw [if_pos h2, if_pos ⟨h2.1, h2.2.1, by omega, by omega⟩]
      · rw [if_neg h2, if_neg (fun q => by
          by_cases r : b = i
          · exact h2 ⟨q.1, q.2.1, r⟩
          · exact h1 ⟨q.1, q.2.1, by omega, by omega⟩)]
theorem m0_at {h im : Int32} {f b : Nat} : m0 h im f 0 b = if f = 15 ∧ 0 = 0 ∧ 0 ≤ b ∧ b < 0 + 4 then -1 else if f = 4 ∧ 0 = 0 ∧ 0 ≤ b ∧ b < 0 + 10 then -1 else if f = 5 ∧ 0 = 0 ∧ 0 ≤ b ∧ b < 0 + 40 then -1 else if f = 1 ∧ 0 = 0 ∧ b = 1 then mf_clamp im else if f = 1 ∧ 0 = 0 ∧ b = 0 then mf_clamp h else ms0 f 0 b := by
  unfold m0
  rw [mfil_at, mfil_at, mfil_at, z_at, z_at]
theorem m0_o {h im : Int32} {f b : Nat} (h1 : f ≠ 1) (h4 : f ≠ 4) (h5 : f ≠ 5) (h15 : f ≠ 15) : m0 h im f 0 b = ms0 f 0 b := by
  rw [m0_at]
  simp only [h1, h4, h5, h15, false_and, if_false]
theorem y_clamp {v : Int32} : mf_clamp v = xf_clampBaseSize v := by
  unfold mf_clamp xf_clampBaseSize
  have e4 : (4 : Int32).toInt = 4 := rfl
  have e60 : (60 : Int32).toInt = 60 := rfl
  by_cases h1 : v < 60
  · rw [if_pos h1, if_pos (show v ≤ 60 by rw [Int32.lt_iff_toInt_lt] at h1; rw [Int32.le_iff_toInt_le]; omega)]
    by_cases h2 : 4 < v
    · rw [if_pos h2, if_pos (show 4 ≤ v by rw [Int32.lt_iff_toInt_lt] at h2; rw [Int32.le_iff_toInt_le]; omega)]
    · rw [if_neg h2]
      by_cases h3 : 4 ≤ v
      · rw [if_pos h3]
        rw [Int32.lt_iff_toInt_lt] at h2
        rw [Int32.le_iff_toInt_le] at h3
        exact Int32.toInt_inj.mp (by omega)
      · rw [if_neg h3]
  · rw [if_neg h1, if_pos (show (4 : Int32) < 60 by decide)]
    rw [Int32.lt_iff_toInt_lt] at h1
    rw [if_pos (show 4 ≤ v by rw [Int32.le_iff_toInt_le]; omega)]
    by_cases h2 : v ≤ 60
    · rw [if_pos h2]
      rw [Int32.le_iff_toInt_le] at h2
      exact Int32.toInt_inj.mp (by omega)
    · rw [if_neg h2]
theorem y_clamp_in {v : Int32} : vp_in (xf_clampBaseSize v) 61 := by
  have e4 : (4 : Int32).toInt = 4 := rfl
  have e60 : (60 : Int32).toInt = 60 := rfl
  unfold xf_clampBaseSize
  by_cases h1 : v < 60
  · rw [if_pos h1]
    by_cases h2 : 4 < v
    · rw [if_pos h2, vp_in_iff]
      rw [Int32.lt_iff_toInt_lt] at h1 h2
      omega
    · rw [if_neg h2]
      unfold vp_in
      decide
  · rw [if_neg h1]
    unfold vp_in
    decide
theorem x0_us {h im a : Int32} (ha : ¬ a = -1) : ∀ k, x_us (x0 h im) a k = 0 := by
  intro k
  induction k with
  | zero => rfl
  | succ k ih =>
    unfold x_us
    rw [ih, x0_o (by decide) (by decide) (by decide), if_neg]
    exact fun q => ha q.symm
theorem x0_ob {h im : Int32} : ∀ k, x_ob (x0 h im) k = 0 := by
  intro k
  induction k with
  | zero => rfl
  | succ k ih =>
    unfold x_ob
    rw [ih, x0_o (by decide) (by decide) (by decide), if_pos]
    rfl
theorem x0_17 {h im : Int32} : x0 h im 17 0 0 = 2 := by
  rw [x0_at, if_pos ⟨rfl, rfl, rfl⟩]
theorem xs0_o {f i j : Nat} (h4 : f ≠ 4) (h6 : f ≠ 6) : xs0 f i j = 0 := by
  unfold xs0
  rw [if_neg (by omega)]
theorem xs0_n {f i j : Nat} (h : f = 4 ∨ f = 6) : xs0 f i j = -1 := by
  unfold xs0
  rw [if_pos h]
theorem y_v0 {n : Nat} (hn : 0 < n) : vp_in 0 n := by
  rw [vp_in_iff]
  have : (0 : Int32).toInt = 0 := rfl
  omega
theorem x0_l0 {h im : Int32} (t : Nat) : z_ix (x0 h im 12 t 0) = 0 := by
  rw [x0_o (by decide) (by decide) (by decide), xs0_o (by decide) (by decide)]
  decide
theorem x0_s0 {h im : Int32} (a : Nat) : x0 h im 0 a 0 = if a = 1 then xf_clampBaseSize im else if a = 0 then xf_clampBaseSize h else 0 := by
  rw [x0_at, if_neg (by omega)]
  by_cases q1 : a = 1
  · rw [if_pos ⟨rfl, q1, rfl⟩, if_pos q1]
  · rw [if_neg (by omega), if_neg q1]
    by_cases q0 : a = 0
    · rw [if_pos ⟨rfl, q0, rfl⟩, if_pos q0]
    · rw [if_neg (by omega), if_neg (by omega), if_neg (by omega), if_neg (by omega), if_neg (by omega), if_neg q0, xs0_o (by decide) (by decide)]
theorem s_startI {h im : Int32} : xI (x0 h im) := by
  have o2 : x0 h im 2 = xs0 2 := x0_o (by decide) (by decide) (by decide)
  have o3 : x0 h im 3 = xs0 3 := x0_o (by decide) (by decide) (by decide)
  have o4 : x0 h im 4 = xs0 4 := x0_o (by decide) (by decide) (by decide)
  have o5 : x0 h im 5 = xs0 5 := x0_o (by decide) (by decide) (by decide)
  have o6 : x0 h im 6 = xs0 6 := x0_o (by decide) (by decide) (by decide)
  have o7 : x0 h im 7 = xs0 7 := x0_o (by decide) (by decide) (by decide)
  have o9 : x0 h im 9 = xs0 9 := x0_o (by decide) (by decide) (by decide)
  have o10 : x0 h im 10 = xs0 10 := x0_o (by decide) (by decide) (by decide)
  have o11 : x0 h im 11 = xs0 11 := x0_o (by decide) (by decide) (by decide)
  have o12 : x0 h im 12 = xs0 12 := x0_o (by decide) (by decide) (by decide)
  have o13 : x0 h im 13 = xs0 13 := x0_o (by decide) (by decide) (by decide)
  have o17 : x0 h im 17 0 0 = 2 := x0_17
  have l0 : ∀ t, z_ix (x0 h im 12 t 0) = 0 := x0_l0
  have v0 : ∀ n, 0 < n → vp_in 0 n := fun n hn => y_v0 hn
  have s0 : ∀ a, x0 h im 0 a 0 = if a = 1 then xf_clampBaseSize im else if a = 0 then xf_clampBaseSize h else 0 := x0_s0
  exact ⟨⟨by rw [o17]; decide, by rw [o17]; decide⟩, fun i _ => by rw [o3]; exact v0 10 (by decide), fun i _ => by rw [o6]; exact Or.inl rfl, fun i _ => by rw [o7]; exact v0 5 (by decide), fun i _ j _ => by rw [o5]; exact Or.inr (v0 40 (by decide)), fun t _ => by rw [o12]; exact v0 13 (by decide), fun t _ j _ => by rw [o10]; exact Or.inr (v0 12 (by decide)), fun t _ j _ => by rw [o9]; exact v0 10 (by decide), fun j hj => Or.inl (x0_14 hj), fun t _ j _ => by rw [o11]; exact (show narrow .boolean (.int (0 : Int32)) = .int 0 by decide)⟩
theorem s_startJ {h im : Int32} : zJ (x0 h im) := by
  have o2 : x0 h im 2 = xs0 2 := x0_o (by decide) (by decide) (by decide)
  have o3 : x0 h im 3 = xs0 3 := x0_o (by decide) (by decide) (by decide)
  have o4 : x0 h im 4 = xs0 4 := x0_o (by decide) (by decide) (by decide)
  have o5 : x0 h im 5 = xs0 5 := x0_o (by decide) (by decide) (by decide)
  have o6 : x0 h im 6 = xs0 6 := x0_o (by decide) (by decide) (by decide)
  have o7 : x0 h im 7 = xs0 7 := x0_o (by decide) (by decide) (by decide)
  have o9 : x0 h im 9 = xs0 9 := x0_o (by decide) (by decide) (by decide)
  have o10 : x0 h im 10 = xs0 10 := x0_o (by decide) (by decide) (by decide)
  have o11 : x0 h im 11 = xs0 11 := x0_o (by decide) (by decide) (by decide)
  have o12 : x0 h im 12 = xs0 12 := x0_o (by decide) (by decide) (by decide)
  have o13 : x0 h im 13 = xs0 13 := x0_o (by decide) (by decide) (by decide)
  have o17 : x0 h im 17 0 0 = 2 := x0_17
  have l0 : ∀ t, z_ix (x0 h im 12 t 0) = 0 := x0_l0
  have v0 : ∀ n, 0 < n → vp_in 0 n := fun n hn => y_v0 hn
  have s0 : ∀ a, x0 h im 0 a 0 = if a = 1 then xf_clampBaseSize im else if a = 0 then xf_clampBaseSize h else 0 := x0_s0
  refine ⟨fun a ha => ?_, fun a ha => ?_, ?_, fun t _ j hj => ?_, fun a ha => ?_, fun t _ j hj => ?_, fun t _ j hj => ?_, fun o ho q => ?_, fun i _ => ?_, fun o _ => ?_, fun t _ j _ => ?_⟩
  · rw [x0_us (nI_ne1 (by omega)), x0_o (by decide) (by decide) (by decide)]; rfl
  · rw [s0]
    split
    · exact y_clamp_in
    · split
      · exact y_clamp_in
      · exact v0 61 (by decide)
  · unfold jO
    rw [x0_ob, x0_o (by decide) (by decide) (by decide)]; rfl
  · rw [l0] at hj; omega
  · have e : ∀ t, x_et (x0 h im) (nI a) t = 0 := fun t => by unfold x_et; rw [l0]; rfl
    unfold x_es4
    rw [e, e, e, e, o2]; rfl
  · rw [l0] at hj; omega
  · rw [l0] at hj; omega
  · rw [o6] at q
    exact absurd (show (-1 : Int32) < 2 by decide) q
  · rw [o4]; exact Or.inl rfl
  · rw [o6, o17]; exact (show (-1 : Int32) < 2 by decide)
  · rw [o9, o17]; exact (show (0 : Int32) < 2 by decide)
theorem s_startR {h im : Int32} : zRel (x0 h im) (m0 h im) := by
  have o2 : x0 h im 2 = xs0 2 := x0_o (by decide) (by decide) (by decide)
  have o3 : x0 h im 3 = xs0 3 := x0_o (by decide) (by decide) (by decide)
  have o4 : x0 h im 4 = xs0 4 := x0_o (by decide) (by decide) (by decide)
  have o5 : x0 h im 5 = xs0 5 := x0_o (by decide) (by decide) (by decide)
  have o6 : x0 h im 6 = xs0 6 := x0_o (by decide) (by decide) (by decide)
  have o7 : x0 h im 7 = xs0 7 := x0_o (by decide) (by decide) (by decide)
  have o9 : x0 h im 9 = xs0 9 := x0_o (by decide) (by decide) (by decide)
  have o10 : x0 h im 10 = xs0 10 := x0_o (by decide) (by decide) (by decide)
  have o11 : x0 h im 11 = xs0 11 := x0_o (by decide) (by decide) (by decide)
  have o12 : x0 h im 12 = xs0 12 := x0_o (by decide) (by decide) (by decide)
  have o13 : x0 h im 13 = xs0 13 := x0_o (by decide) (by decide) (by decide)
  have o17 : x0 h im 17 0 0 = 2 := x0_17
  have l0 : ∀ t, z_ix (x0 h im 12 t 0) = 0 := x0_l0
  have v0 : ∀ n, 0 < n → vp_in 0 n := fun n hn => y_v0 hn
  have s0 : ∀ a, x0 h im 0 a 0 = if a = 1 then xf_clampBaseSize im else if a = 0 then xf_clampBaseSize h else 0 := x0_s0
  refine ⟨?_, fun i hi => ?_, fun i _ => ?_, fun i _ q => ?_, fun i _ => ?_, fun i hi => ?_, fun o ho => ?_, fun o _ => ?_, fun o _ f _ => ?_, fun t _ => ?_, fun t _ => ?_, fun t _ => ?_, fun t _ j _ => ?_, fun t _ j _ => ?_, fun t _ j _ => ?_, fun k hk => ?_⟩
  · rw [m0_o (by decide) (by decide) (by decide) (by decide), o17]; rfl
  · rw [s0, m0_at, if_neg (by omega), if_neg (by omega), if_neg (by omega), y_clamp, y_clamp]
    by_cases q1 : i = 1
    · rw [if_pos q1, if_pos ⟨rfl, rfl, q1⟩]
    · rw [if_neg q1, if_neg (fun p => q1 p.2.2)]
      by_cases q0 : i = 0
      · rw [if_pos q0, if_pos ⟨rfl, rfl, q0⟩]
      · rw [if_neg q0, if_neg (fun p => q0 p.2.2)]; rfl
  · rw [m0_o (by decide) (by decide) (by decide) (by decide), o2]; rfl
  · rw [o2] at q; exact absurd rfl q
  · rw [m0_o (by decide) (by decide) (by decide) (by decide)]; exact v0 10 (by decide)
  · rw [m0_at, if_neg (by omega), if_pos (by omega), o4]; rfl
  · rw [m0_at, if_neg (by omega), if_neg (by omega), if_pos (by omega), o6]; rfl
  · rw [m0_o (by decide) (by decide) (by decide) (by decide), o7]; rfl
  · rw [m0_o (by decide) (by decide) (by decide) (by decide), o5]; rfl
  · rw [m0_o (by decide) (by decide) (by decide) (by decide), o12]; exact (show (0 : Int32) = 0 ↔ (0 : Int32) ≤ 0 by decide)
  · rw [m0_o (by decide) (by decide) (by decide) (by decide), o13]; rfl
  · rw [m0_o (by decide) (by decide) (by decide) (by decide), o12]; rfl
  · rw [m0_o (by decide) (by decide) (by decide) (by decide), o9]; rfl
  · rw [m0_o (by decide) (by decide) (by decide) (by decide), o10]; rfl
  · rw [m0_o (by decide) (by decide) (by decide) (by decide), o11]; rfl
  · rw [m0_at, if_pos (by omega), x0_14 hk]
theorem s_start {h im : Int32} : zOk (x0 h im) (m0 h im) := ⟨s_startI, s_startJ, s_startR⟩
