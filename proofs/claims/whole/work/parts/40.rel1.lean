-- the two states, number by number
def zRel (σ ρ : zS) : Prop := ρ 0 0 0 = σ 17 0 0 ∧ (∀ i, i < 10 → ρ 1 0 i = σ 0 i 0) ∧ (∀ i, i < 10 → ρ 2 0 i = σ 2 i 0) ∧ (∀ i, i < 10 → ¬ σ 2 i 0 = 0 → ρ 3 0 i = σ 3 i 0) ∧ (∀ i, i < 10 → vp_in (ρ 3 0 i) 10) ∧ (∀ i, i < 10 → ρ 4 0 i = σ 4 i 0) ∧ (∀ o, o < 40 → ρ 5 0 o = σ 6 o 0) ∧ (∀ o, o < 40 → ρ 6 0 o = σ 7 o 0) ∧ (∀ o, o < 40 → ∀ f, f < 4 → ρ 7 0 (o * 4 + f) = σ 5 o f) ∧ (∀ t, t < 4 → (ρ 9 0 t = 0 ↔ σ 12 t 0 ≤ 0)) ∧ (∀ t, t < 4 → ρ 10 0 t = σ 13 t 0) ∧ (∀ t, t < 4 → ρ 11 0 t = σ 12 t 0) ∧ (∀ t, t < 4 → ∀ j, j < 12 → ρ 12 0 (t * 12 + j) = σ 9 t j) ∧ (∀ t, t < 4 → ∀ j, j < 12 → ρ 13 0 (t * 12 + j) = σ 10 t j) ∧ (∀ t, t < 4 → ∀ j, j < 12 → ρ 14 0 (t * 12 + j) = σ 11 t j) ∧ (∀ k, k < 4 → ρ 15 0 k = σ 14 0 k)
theorem zRel.r0 {σ ρ : zS} (h : zRel σ ρ) : ρ 0 0 0 = σ 17 0 0 := h.1
theorem zRel.r1 {σ ρ : zS} (h : zRel σ ρ) : ∀ i, i < 10 → ρ 1 0 i = σ 0 i 0 := h.2.1
theorem zRel.r2 {σ ρ : zS} (h : zRel σ ρ) : ∀ i, i < 10 → ρ 2 0 i = σ 2 i 0 := h.2.2.1
theorem zRel.r3 {σ ρ : zS} (h : zRel σ ρ) : ∀ i, i < 10 → ¬ σ 2 i 0 = 0 → ρ 3 0 i = σ 3 i 0 := h.2.2.2.1
theorem zRel.r3b {σ ρ : zS} (h : zRel σ ρ) : ∀ i, i < 10 → vp_in (ρ 3 0 i) 10 := h.2.2.2.2.1
theorem zRel.r4 {σ ρ : zS} (h : zRel σ ρ) : ∀ i, i < 10 → ρ 4 0 i = σ 4 i 0 := h.2.2.2.2.2.1
theorem zRel.r5 {σ ρ : zS} (h : zRel σ ρ) : ∀ o, o < 40 → ρ 5 0 o = σ 6 o 0 := h.2.2.2.2.2.2.1
theorem zRel.r6 {σ ρ : zS} (h : zRel σ ρ) : ∀ o, o < 40 → ρ 6 0 o = σ 7 o 0 := h.2.2.2.2.2.2.2.1
theorem zRel.r7 {σ ρ : zS} (h : zRel σ ρ) : ∀ o, o < 40 → ∀ f, f < 4 → ρ 7 0 (o * 4 + f) = σ 5 o f := h.2.2.2.2.2.2.2.2.1
theorem zRel.r9 {σ ρ : zS} (h : zRel σ ρ) : ∀ t, t < 4 → (ρ 9 0 t = 0 ↔ σ 12 t 0 ≤ 0) := h.2.2.2.2.2.2.2.2.2.1
theorem zRel.r10 {σ ρ : zS} (h : zRel σ ρ) : ∀ t, t < 4 → ρ 10 0 t = σ 13 t 0 := h.2.2.2.2.2.2.2.2.2.2.1
theorem zRel.r11 {σ ρ : zS} (h : zRel σ ρ) : ∀ t, t < 4 → ρ 11 0 t = σ 12 t 0 := h.2.2.2.2.2.2.2.2.2.2.2.1
theorem zRel.r12 {σ ρ : zS} (h : zRel σ ρ) : ∀ t, t < 4 → ∀ j, j < 12 → ρ 12 0 (t * 12 + j) = σ 9 t j := h.2.2.2.2.2.2.2.2.2.2.2.2.1
theorem zRel.r13 {σ ρ : zS} (h : zRel σ ρ) : ∀ t, t < 4 → ∀ j, j < 12 → ρ 13 0 (t * 12 + j) = σ 10 t j := h.2.2.2.2.2.2.2.2.2.2.2.2.2.1
theorem zRel.r14 {σ ρ : zS} (h : zRel σ ρ) : ∀ t, t < 4 → ∀ j, j < 12 → ρ 14 0 (t * 12 + j) = σ 11 t j := h.2.2.2.2.2.2.2.2.2.2.2.2.2.2.1
theorem zRel.r15 {σ ρ : zS} (h : zRel σ ρ) : ∀ k, k < 4 → ρ 15 0 k = σ 14 0 k := h.2.2.2.2.2.2.2.2.2.2.2.2.2.2.2
-- orders
theorem i_nlt {a b : Int32} : ¬ a < b ↔ b ≤ a := by
  rw [Int32.lt_iff_toInt_lt, Int32.le_iff_toInt_le]
  omega
theorem i_nle {a b : Int32} : ¬ a ≤ b ↔ b < a := by
  rw [Int32.lt_iff_toInt_lt, Int32.le_iff_toInt_le]
  omega
theorem i_le1 {a : Int32} : a ≤ 1 ↔ a < 2 := by
  rw [Int32.lt_iff_toInt_lt, Int32.le_iff_toInt_le]
  have e1 : (1 : Int32).toInt = 1 := rfl
  have e2 : (2 : Int32).toInt = 2 := rfl
  omega
theorem i_lt4 {a : Int32} : (3 : Int32) < a ↔ 4 ≤ a := by
  rw [Int32.lt_iff_toInt_lt, Int32.le_iff_toInt_le]
  have e1 : (3 : Int32).toInt = 3 := rfl
  have e2 : (4 : Int32).toInt = 4 := rfl
  omega
theorem i_lt40 {a : Int32} : (39 : Int32) < a ↔ 40 ≤ a := by
  rw [Int32.lt_iff_toInt_lt, Int32.le_iff_toInt_le]
  have e1 : (39 : Int32).toInt = 39 := rfl
  have e2 : (40 : Int32).toInt = 40 := rfl
  omega
theorem i_2_0 {a : Int32} (h : ¬ a < 2) : ¬ a < 0 := by
  rw [Int32.lt_iff_toInt_lt] at h ⊢
  have e1 : (0 : Int32).toInt = 0 := rfl
  have e2 : (2 : Int32).toInt = 2 := rfl
  omega
theorem z_olt {N : Nat} {k : Int32} (h : z_o N k) : k < 0 ↔ k = -1 := by
  constructor
  · intro q
    rcases h with h | h
    · exact h
    · exact absurd (Or.inl q) h
  · intro q
    rw [q]
    decide
theorem z_ole {N : Nat} {k : Int32} (h : z_o N k) : 0 ≤ k ↔ ¬ k = -1 := by
  rw [← z_olt h, i_nlt]
theorem m_ixv {t k : Int32} (ht : vp_in t 4) (hk : vp_in k 12) : z_ix (t * 12 + k) = z_ix t * 12 + z_ix k := by
  obtain ⟨a, ha, ea⟩ := vp_in_of ht (by decide)
  obtain ⟨b, hb, eb⟩ := vp_in_of hk (by decide)
  rw [m_ixE (w := 12) (M := 12) rfl ea eb, ea, eb]
  show (nI _).toNatClampNeg = (nI a).toNatClampNeg * 12 + (nI b).toNatClampNeg
  rw [nI_clamp (by omega), nI_clamp (by omega), nI_clamp (by omega)]
theorem m_ixv4 {o f : Int32} (ho : vp_in o 40) (hf : vp_in f 4) : z_ix (o * 4 + f) = z_ix o * 4 + z_ix f := by
  obtain ⟨a, ha, ea⟩ := vp_in_of ho (by decide)
  obtain ⟨b, hb, eb⟩ := vp_in_of hf (by decide)
  rw [m_ixE (w := 4) (M := 4) rfl ea eb, ea, eb]
  show (nI _).toNatClampNeg = (nI a).toNatClampNeg * 4 + (nI b).toNatClampNeg
  rw [nI_clamp (by omega), nI_clamp (by omega), nI_clamp (by omega)]
-- tests
theorem l_noArea {σ ρ : zS} (R : zRel σ ρ) {a : Int32} : mf_noArea ρ a = 0 ↔ ¬ xf_isArea σ a = 0 := by
  unfold mf_noArea xf_isArea
  rw [R.r0]
  by_cases h1 : a < 0
  · simp [h1]
  · by_cases h2 : a < σ 17 0 0
    · have h3 : ¬ σ 17 0 0 ≤ a := i_nle.mpr h2
      simp [h1, h2, h3]
    · have h3 : σ 17 0 0 ≤ a := i_nlt.mp h2
      simp [h1, h2, h3]
theorem l_noScope {σ ρ : zS} (R : zRel σ ρ) {a : Int32} : mf_noScope ρ a = 0 ↔ ¬ xf_isScope σ a = 0 := by
  unfold mf_noScope xf_isScope xf_isArea
  rw [R.r0]
  by_cases h0 : a < 2
  · simp [h0]
  · have h1 := i_2_0 h0
    by_cases h2 : a < σ 17 0 0
    · have h3 : ¬ σ 17 0 0 ≤ a := i_nle.mpr h2
      simp [h0, h1, h2, h3]
    · have h3 : σ 17 0 0 ≤ a := i_nlt.mp h2
      simp [h0, h1, h2, h3]
theorem l_idle {σ ρ : zS} (R : zRel σ ρ) {t : Int32} : mf_idle ρ t = 0 ↔ ¬ xf_isBegun σ t = 0 := by
  unfold mf_idle xf_isBegun xf_isThread
  by_cases h0 : t < 0
  · simp [h0]
  · by_cases h1 : 4 ≤ t
    · simp [h0, h1, i_lt4]
    · have ht : vp_in t 4 := z_vin h0 h1 rfl
      have h2 := R.r9 (z_ix t) (z_vlt ht)
      by_cases h3 : σ 12 (z_ix t) 0 ≤ 0
      · simp [h0, h1, i_lt4, h2, h3]
      · simp [h0, h1, i_lt4, h2, h3]
theorem l_noObject {σ ρ : zS} (R : zRel σ ρ) (I : xI σ) {o : Int32} : mf_noObject ρ o = 0 ↔ ¬ xf_isObject σ o = 0 := by
  unfold mf_noObject xf_isObject
  by_cases h0 : o < 0
  · simp [h0]
  · by_cases h1 : 40 ≤ o
    · simp [h0, h1, i_lt40]
    · have ho : vp_in o 40 := z_vin h0 h1 rfl
      have h2 := R.r5 (z_ix o) (z_vlt ho)
      have h3 := z_ole (I.2.2.1 (z_ix o) (z_vlt ho))
      rw [h2]
      by_cases h4 : σ 6 (z_ix o) 0 = -1
      · simp [h0, h1, i_lt40, h4]
      · have h5 := h3.mpr h4
        simp [h0, h1, i_lt40, h4, h5]
theorem l_objN {σ : zS} {o : Int32} : xf_isObjectOrNull σ o = 0 ↔ (¬ o = -1 ∧ xf_isObject σ o = 0) := by
  unfold xf_isObjectOrNull
  by_cases h : o = -1
  · simp [h]
  · by_cases h2 : xf_isObject σ o = 0
    · simp [h, h2]
    · simp [h, h2]
-- the view
def x_u (σ : zS) (t : Nat) : Nat → Int32 → Int32
  | 0, k => k
  | d + 1, k => if k = -1 then k else x_u σ t d (σ 10 t (z_ix k))
theorem x_u_o {σ : zS} {t : Nat} (I : xI σ) (ht : t < 4) : ∀ (d : Nat) (k : Int32), z_o 12 k → z_o 12 (x_u σ t d k) := by
  intro d
  induction d with
  | zero => intro k hk; exact hk
  | succ d ih =>
    intro k hk
    unfold x_u
    split
    · exact hk
    · rename_i h
      exact ih _ (I.2.2.2.2.2.2.1 t ht _ (z_vlt (z_ovin hk h)))
theorem x_u_s {σ : zS} {t : Nat} : ∀ (d : Nat) (k : Int32), x_u σ t (d + 1) k = if x_u σ t d k = -1 then -1 else σ 10 t (z_ix (x_u σ t d k)) := by
  intro d
  induction d with
  | zero =>
    intro k
    unfold x_u x_u
    split
    · rename_i h; exact h
    · rfl
  | succ d ih =>
    intro k
    conv => lhs; unfold x_u
    by_cases h : k = -1
    · rw [if_pos h]
      have : x_u σ t (d + 1) k = k := by unfold x_u; rw [if_pos h]
      rw [this, if_pos h, h]
    · rw [if_neg h, ih]
      have : x_u σ t (d + 1) k = x_u σ t d (σ 10 t (z_ix k)) := by conv => lhs; unfold x_u; rw [if_neg h]
      rw [this]
theorem l_vw {σ ρ : zS} (R : zRel σ ρ) (I : xI σ) {t : Int32} (ht : vp_in t 4) : ∀ (d : Nat) (k : Int32), z_o 12 k → mf_vw ρ t d k = x_u σ (z_ix t) d k := by
  intro d
  induction d with
  | zero => intro k _; rfl
  | succ d ih =>
    intro k hk
    unfold mf_vw x_u
    by_cases h : k = -1
    · rw [if_pos ((z_olt hk).mpr h), if_pos h]
    · have hv := z_ovin hk h
      rw [if_neg (fun q => h ((z_olt hk).mp q)), if_neg h, m_ixv ht hv, R.r13 _ (z_vlt ht) _ (z_vlt hv)]
      exact ih _ (I.2.2.2.2.2.2.1 _ (z_vlt ht) _ (z_vlt hv))
theorem l_viewed {σ ρ : zS} (R : zRel σ ρ) (I : xI σ) {t i : Int32} (ht : vp_in t 4) : mf_viewed ρ t i = x_u σ (z_ix t) (z_ix i) (xf_top σ (z_ix t)) := by
  unfold mf_viewed
  rw [R.r11 _ (z_vlt ht)]
  exact l_vw R I ht _ _ (x_top_o I (z_vlt ht))
theorem l_sw {σ ρ : zS} (R : zRel σ ρ) (I : xI σ) {t a : Int32} (ht : vp_in t 4) : ∀ (k i : Nat), i + k ≤ 12 → mf_sw ρ t a k i = xf_fw σ (z_ix t) a k (x_u σ (z_ix t) i (xf_top σ (z_ix t))) := by
  intro k
  induction k with
  | zero => intro i _; rfl
  | succ k ih =>
    intro i hi
    unfold mf_sw xf_fw
    rw [l_viewed R I ht, show z_ix (nI i) = i from nI_clamp (by omega)]
    have ho := x_u_o I (z_vlt ht) i _ (x_top_o I (z_vlt ht))
    by_cases h : x_u σ (z_ix t) i (xf_top σ (z_ix t)) = -1
    · rw [if_neg (fun q => (z_ole ho).mp q h), if_pos h]
    · have hv := z_ovin ho h
      rw [if_pos ((z_ole ho).mpr h), if_neg h, m_ixv ht hv, R.r12 _ (z_vlt ht) _ (z_vlt hv)]
      split
      · rfl
      · rw [ih (i + 1) (by omega), x_u_s, if_neg h]
theorem l_stepWith {σ ρ : zS} (R : zRel σ ρ) (I : xI σ) {t a : Int32} (ht : vp_in t 4) : mf_stepWith ρ t a = xf_firstWith σ (z_ix t) a := l_sw R I ht 12 0 (by decide)
theorem l_nr {σ ρ : zS} (R : zRel σ ρ) (I : xI σ) {t : Int32} (ht : vp_in t 4) : ∀ (k i : Nat), i + k ≤ 12 → mf_nr ρ t k i = xf_ns σ (z_ix t) k (x_u σ (z_ix t) i (xf_top σ (z_ix t))) := by
  intro k
  induction k with
  | zero => intro i _; rfl
  | succ k ih =>
    intro i hi
    unfold mf_nr xf_ns
    rw [l_viewed R I ht, show z_ix (nI i) = i from nI_clamp (by omega)]
    have ho := x_u_o I (z_vlt ht) i _ (x_top_o I (z_vlt ht))
    by_cases h : x_u σ (z_ix t) i (xf_top σ (z_ix t)) = -1
    · rw [if_neg (fun q => (z_ole ho).mp q h), if_pos h]
    · have hv := z_ovin ho h
      rw [if_pos ((z_ole ho).mpr h), if_neg h, m_ixv ht hv, R.r12 _ (z_vlt ht) _ (z_vlt hv)]
      by_cases h2 : σ 9 (z_ix t) (z_ix (x_u σ (z_ix t) i (xf_top σ (z_ix t)))) < 2
      · rw [if_pos (i_le1.mpr h2), if_pos h2, ih (i + 1) (by omega), x_u_s, if_neg h]
      · rw [if_neg (fun q => h2 (i_le1.mp q)), if_neg h2]
theorem l_nearest {σ ρ : zS} (R : zRel σ ρ) (I : xI σ) {t : Int32} (ht : vp_in t 4) : mf_nearest ρ t = xf_nearestScope σ (z_ix t) := l_nr R I ht 12 0 (by decide)
theorem l_inView {σ ρ : zS} (R : zRel σ ρ) (I : xI σ) {t a : Int32} (ht : vp_in t 4) : 0 ≤ mf_stepWith ρ t a ↔ ¬ xf_hasInView σ (z_ix t) a = 0 := by
  rw [l_stepWith R I ht, z_ole (x_firstWith_o I (z_vlt ht))]
  unfold xf_hasInView
  split
  · rename_i h; simp [h]
  · rename_i h; simp [h]
theorem l_inView2 {σ ρ : zS} (R : zRel σ ρ) (I : xI σ) {t a : Int32} (ht : vp_in t 4) : mf_stepWith ρ t a < 0 ↔ xf_hasInView σ (z_ix t) a = 0 := by
  rw [← Decidable.not_iff_not, i_nlt, l_inView R I ht]
theorem l_sees {σ ρ : zS} (R : zRel σ ρ) (I : xI σ) {t o : Int32} (ht : vp_in t 4) (ho : vp_in o 40) : mf_sees ρ t o = xf_sees σ t o := by
  unfold mf_sees xf_sees
  rw [R.r5 _ (z_vlt ho), R.r10 _ (z_vlt ht)]
  simp only [l_inView2 R I ht]
-- the reference is safe where the class is
theorem l_mI {σ ρ : zS} (R : zRel σ ρ) (I : xI σ) : mI ρ := by
  refine ⟨by rw [R.r0]; exact I.1, R.r3b, fun o ho => by rw [R.r5 o ho]; exact I.2.2.1 o ho, fun o ho => by rw [R.r6 o ho]; exact I.2.2.2.1 o ho, fun k hk => ?_, fun t ht => by rw [R.r11 t ht]; exact I.2.2.2.2.2.1 t ht, fun k hk => ?_, fun k hk => ?_, fun k hk => by rw [R.r15 k hk]; exact I.2.2.2.2.2.2.2.2.1 k hk, fun t ht => ?_⟩
  · have h := R.r7 (k / 4) (by omega) (k % 4) (by omega)
    rw [show k / 4 * 4 + k % 4 = k by omega] at h
    rw [h]
    exact I.2.2.2.2.1 _ (by omega) _ (by omega)
  · have h := R.r12 (k / 12) (by omega) (k % 12) (by omega)
    rw [show k / 12 * 12 + k % 12 = k by omega] at h
    rw [h]
    exact I.2.2.2.2.2.2.2.1 _ (by omega) _ (by omega)
  · have h := R.r13 (k / 12) (by omega) (k % 12) (by omega)
    rw [show k / 12 * 12 + k % 12 = k by omega] at h
    rw [h]
    exact I.2.2.2.2.2.2.1 _ (by omega) _ (by omega)
  · rw [R.r9 t ht, R.r11 t ht]
    exact Decidable.em _
