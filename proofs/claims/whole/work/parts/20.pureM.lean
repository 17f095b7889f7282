-- the reference's state as numbers: 0 areas; 1 size 2 entries 3 parent 4 portal; 5 area 6 width 7 field 8 kept; 9 begun 10 heapless 11 steps 12 at 13 under 14 entered 15 fixed
def mf_clamp (v : Int32) : Int32 := if 4 ≤ v then (if v ≤ 60 then v else 60) else 4
def mf_idle (ρ : zS) (t : Int32) : Int32 := if t < 0 then 1 else if 3 < t then 1 else if ρ 9 0 (z_ix t) = 0 then 1 else 0
def mf_noArea (ρ : zS) (a : Int32) : Int32 := if a < 0 then 1 else if a < ρ 0 0 0 then 0 else 1
def mf_noScope (ρ : zS) (a : Int32) : Int32 := if a < 2 then 1 else if a < ρ 0 0 0 then 0 else 1
def mf_noObject (ρ : zS) (o : Int32) : Int32 := if o < 0 then 1 else if 39 < o then 1 else if 0 ≤ ρ 5 0 (z_ix o) then 0 else 1
def mf_us (ρ : zS) (a : Int32) : Nat → Nat → Int32 → Int32
  | 0, _, n => n
  | k + 1, i, n => mf_us ρ a k (i + 1) (if ρ 5 0 i = a then n + (1 + ρ 6 0 i) else n)
def mf_used (ρ : zS) (a : Int32) : Int32 := mf_us ρ a 40 0 0
def mf_scope (ρ : zS) (size : Int32) : Int32 × zS := if size < 1 then (-1, ρ) else if size ≤ 40 then (if ρ 0 0 0 = 10 then (-2, ρ) else (ρ 0 0 0 + 1 - 1, z_up (z_up ρ 1 0 (z_ix (ρ 0 0 0)) size) 0 0 0 (ρ 0 0 0 + 1))) else (-1, ρ)
def mf_step (ρ : zS) (t a u b : Int32) : zS := z_up (z_up (z_up (z_up ρ 12 0 (z_ix (t * 12 + ρ 11 0 (z_ix t))) a) 13 0 (z_ix (t * 12 + ρ 11 0 (z_ix t))) u) 14 0 (z_ix (t * 12 + ρ 11 0 (z_ix t))) (vp_nar .boolean b)) 11 0 (z_ix t) (ρ 11 0 (z_ix t) + 1)
def mf_beginS (ρ : zS) (t h : Int32) : zS := z_up (z_up (z_up ρ 9 0 (z_ix t) (vp_nar .boolean 1)) 10 0 (z_ix t) (vp_nar .boolean h)) 11 0 (z_ix t) 0
def mf_begin (ρ : zS) (t h : Int32) : Int32 × zS := if t < 0 then (-1, ρ) else if 3 < t then (-1, ρ) else if ρ 9 0 (z_ix t) = 0 then (0, mf_step (mf_beginS ρ t h) t (if h = 0 then 0 else 1) (-1) 0) else (-1, ρ)
def mf_vw (ρ : zS) (t : Int32) : Nat → Int32 → Int32
  | 0, k => k
  | d + 1, k => if k < 0 then k else mf_vw ρ t d (ρ 13 0 (z_ix (t * 12 + k)))
def mf_viewed (ρ : zS) (t i : Int32) : Int32 := mf_vw ρ t (z_ix i) (ρ 11 0 (z_ix t) - 1)
def mf_sw (ρ : zS) (t a : Int32) : Nat → Nat → Int32
  | 0, _ => -1
  | k + 1, i => if 0 ≤ mf_viewed ρ t (nI i) then (if ρ 12 0 (z_ix (t * 12 + mf_viewed ρ t (nI i))) = a then mf_viewed ρ t (nI i) else mf_sw ρ t a k (i + 1)) else -1
def mf_stepWith (ρ : zS) (t a : Int32) : Int32 := mf_sw ρ t a 12 0
def mf_nr (ρ : zS) (t : Int32) : Nat → Nat → Int32
  | 0, _ => 0
  | k + 1, i => if 0 ≤ mf_viewed ρ t (nI i) then (if ρ 12 0 (z_ix (t * 12 + mf_viewed ρ t (nI i))) ≤ 1 then mf_nr ρ t k (i + 1) else ρ 12 0 (z_ix (t * 12 + mf_viewed ρ t (nI i)))) else 0
def mf_nearest (ρ : zS) (t : Int32) : Int32 := mf_nr ρ t 12 0
def mf_enterS (ρ : zS) (t z : Int32) : zS := if ρ 2 0 (z_ix z) = 0 then z_up ρ 3 0 (z_ix z) (mf_nearest ρ t) else ρ
def mf_enterT (ρ : zS) (t z : Int32) : zS := mf_step (mf_enterS ρ t z) t z (ρ 11 0 (z_ix t) - 1) 1
def mf_enterR (ρ : zS) (t z : Int32) : Int32 × zS := if ρ 11 0 (z_ix t) = 12 then (-2, ρ) else (ρ 2 0 (z_ix z) + 1, z_up (mf_enterT ρ t z) 2 0 (z_ix z) (ρ 2 0 (z_ix z) + 1))
def mf_enter (ρ : zS) (t z : Int32) : Int32 × zS := if mf_idle ρ t = 0 then (if mf_noScope ρ z = 0 then (if 0 ≤ mf_stepWith ρ t z then (-3, ρ) else if ρ 2 0 (z_ix z) ≤ 0 then mf_enterR ρ t z else if ρ 3 0 (z_ix z) = mf_nearest ρ t then mf_enterR ρ t z else (-3, ρ)) else (-1, ρ)) else (-1, ρ)
def mf_turn3 (ρ : zS) (t a k : Int32) : Int32 × zS := if ρ 11 0 (z_ix t) = 12 then (-2, ρ) else (ρ 11 0 (z_ix t) + 1, mf_step ρ t a (if 0 ≤ k then ρ 13 0 (z_ix (t * 12 + k)) else -1) 0)
def mf_turn2 (ρ : zS) (t a : Int32) : Int32 × zS := if 2 ≤ a then (if 0 ≤ mf_stepWith ρ t a then mf_turn3 ρ t a (mf_stepWith ρ t a) else (-4, ρ)) else mf_turn3 ρ t a (-1)
def mf_turn (ρ : zS) (t a : Int32) : Int32 × zS := if mf_idle ρ t = 0 then (if mf_noArea ρ a = 0 then (if a = 0 then (if ρ 10 0 (z_ix t) = 0 then mf_turn2 ρ t a else (-5, ρ)) else mf_turn2 ρ t a) else (-1, ρ)) else (-1, ρ)
def mf_em (z : Int32) : Nat → Nat → zS → zS
  | 0, _, ρ => ρ
  | k + 1, i, ρ => mf_em z k (i + 1) (if ρ 5 0 i = z then z_up ρ 5 0 i (-1) else ρ)
def mf_empty (ρ : zS) (z : Int32) : zS := z_up (mf_em z 40 0 ρ) 4 0 (z_ix z) (-1)
def mf_lvK (ρ : zS) (t : Int32) : Int32 := t * 12 + (ρ 11 0 (z_ix t) - 1)
def mf_lvA (ρ : zS) (t : Int32) : zS := if ρ 11 0 (z_ix t) - 1 = 0 then z_up (z_up ρ 11 0 (z_ix t) (ρ 11 0 (z_ix t) - 1)) 9 0 (z_ix t) (vp_nar .boolean 0) else z_up ρ 11 0 (z_ix t) (ρ 11 0 (z_ix t) - 1)
def mf_lvZ (ρ : zS) (t : Int32) : Int32 := ρ 12 0 (z_ix (mf_lvK ρ t))
def mf_lvB (ρ : zS) (t : Int32) : zS := z_up (mf_lvA ρ t) 2 0 (z_ix (mf_lvZ ρ t)) (ρ 2 0 (z_ix (mf_lvZ ρ t)) - 1)
def mf_leave (ρ : zS) (t : Int32) : Int32 × zS := if mf_idle ρ t = 0 then (ρ 11 0 (z_ix t) - 1, if ρ 14 0 (z_ix (mf_lvK ρ t)) = 0 then mf_lvA ρ t else if ρ 2 0 (z_ix (mf_lvZ ρ t)) - 1 = 0 then mf_empty (mf_lvB ρ t) (mf_lvZ ρ t) else mf_lvB ρ t) else (-1, ρ)
def mf_current (ρ : zS) (t : Int32) : Int32 := ρ 12 0 (z_ix (t * 12 + ρ 11 0 (z_ix t) - 1))
/-- the first number from i on without an object, or 40 -/
def mf_fr (ρ : zS) : Nat → Nat → Int32
  | 0, i => nI i
  | k + 1, i => if ρ 5 0 i < 0 then nI i else mf_fr ρ k (i + 1)
def mf_free (ρ : zS) : Int32 := mf_fr ρ 40 0
def mf_ff (o : Int32) : Nat → Nat → zS → zS
  | 0, _, ρ => ρ
  | k + 1, i, ρ => mf_ff o k (i + 1) (z_up ρ 7 0 (z_ix (o * 4 + nI i)) (-1))
def mf_make (ρ : zS) (t f : Int32) : Int32 × zS := if mf_idle ρ t = 0 then (if f < 0 then (-1, ρ) else if f ≤ 4 then (if mf_free ρ = 40 then (-2, ρ) else if mf_used ρ (mf_current ρ t) + 1 + f ≤ ρ 1 0 (z_ix (mf_current ρ t)) then (mf_free ρ, mf_ff (mf_free ρ) 4 0 (z_up (z_up ρ 5 0 (z_ix (mf_free ρ)) (mf_current ρ t)) 6 0 (z_ix (mf_free ρ)) f)) else (-2, ρ)) else (-1, ρ)) else (-1, ρ)
def mf_sees (ρ : zS) (t o : Int32) : Int32 := if ρ 5 0 (z_ix o) = 0 then (if ρ 10 0 (z_ix t) = 0 then 1 else 0) else if ρ 5 0 (z_ix o) = 1 then 1 else if mf_stepWith ρ t (ρ 5 0 (z_ix o)) < 0 then 0 else 1
def mf_li (ρ : zS) (z : Int32) : Nat → Int32 → Int32
  | 0, _ => 0
  | k + 1, q => if q ≤ 1 then 0 else if q = z then 1 else mf_li ρ z k (ρ 3 0 (z_ix q))
def mf_liesIn (ρ : zS) (a z : Int32) : Int32 := mf_li ρ z 10 a
def mf_mayPoint (ρ : zS) (a o : Int32) : Int32 := if ρ 5 0 (z_ix o) < 2 then 1 else if a ≤ 1 then 0 else if mf_liesIn ρ a (ρ 5 0 (z_ix o)) = 0 then 0 else 1
def mf_put2 (ρ : zS) (t o f g : Int32) : Int32 × zS := if f < ρ 6 0 (z_ix o) then (if mf_sees ρ t o = 0 then (-4, ρ) else if g < 0 then (0, z_up ρ 7 0 (z_ix (o * 4 + f)) g) else if mf_sees ρ t g = 0 then (-4, ρ) else if mf_mayPoint ρ (ρ 5 0 (z_ix o)) g = 0 then (-5, ρ) else (0, z_up ρ 7 0 (z_ix (o * 4 + f)) g)) else (-1, ρ)
def mf_put (ρ : zS) (t o f g : Int32) : Int32 × zS := if mf_idle ρ t = 0 then (if mf_noObject ρ o = 0 then (if f < 0 then (-1, ρ) else if 3 < f then (-1, ρ) else if g = -1 then mf_put2 ρ t o f g else if mf_noObject ρ g = 0 then mf_put2 ρ t o f g else (-1, ρ)) else (-1, ρ)) else (-1, ρ)
def mf_get (ρ : zS) (t o f : Int32) : Int32 := if mf_idle ρ t = 0 then (if mf_noObject ρ o = 0 then (if f < 0 then -1 else if f < ρ 6 0 (z_ix o) then (if mf_sees ρ t o = 0 then -4 else if 0 ≤ ρ 7 0 (z_ix (o * 4 + f)) then (if mf_sees ρ t (ρ 7 0 (z_ix (o * 4 + f))) = 0 then -4 else ρ 7 0 (z_ix (o * 4 + f))) else -6) else -1) else -1) else -1
def mf_hang2 (ρ : zS) (t z o : Int32) : Int32 × zS := if mf_stepWith ρ t z < 0 then (-4, ρ) else if o < 0 then (0, z_up ρ 4 0 (z_ix z) o) else if mf_sees ρ t o = 0 then (-4, ρ) else if ρ 5 0 (z_ix o) = z then (0, z_up ρ 4 0 (z_ix z) o) else (-5, ρ)
def mf_hang (ρ : zS) (t z o : Int32) : Int32 × zS := if mf_idle ρ t = 0 then (if mf_noScope ρ z = 0 then (if o = -1 then mf_hang2 ρ t z o else if mf_noObject ρ o = 0 then mf_hang2 ρ t z o else (-1, ρ)) else (-1, ρ)) else (-1, ρ)
def mf_portal (ρ : zS) (t z : Int32) : Int32 := if mf_idle ρ t = 0 then (if mf_noScope ρ z = 0 then (if 0 ≤ mf_stepWith ρ t z then (if 0 ≤ ρ 4 0 (z_ix z) then ρ 4 0 (z_ix z) else -6) else -4) else -1) else -1
def mf_assign2 (ρ : zS) (t k o : Int32) : Int32 × zS := if o < 0 then (0, z_up ρ 15 0 (z_ix k) o) else if mf_sees ρ t o = 0 then (-4, ρ) else if ρ 5 0 (z_ix o) ≤ 1 then (0, z_up ρ 15 0 (z_ix k) o) else (-5, ρ)
def mf_assign (ρ : zS) (t k o : Int32) : Int32 × zS := if mf_idle ρ t = 0 then (if k < 0 then (-1, ρ) else if 3 < k then (-1, ρ) else if o = -1 then mf_assign2 ρ t k o else if mf_noObject ρ o = 0 then mf_assign2 ρ t k o else (-1, ρ)) else (-1, ρ)
def mf_areaOf (ρ : zS) (o : Int32) : Int32 := if mf_noObject ρ o = 0 then ρ 5 0 (z_ix o) else -1
def mf_room (ρ : zS) (a : Int32) : Int32 := if mf_noArea ρ a = 0 then ρ 1 0 (z_ix a) - mf_used ρ a else -1
def mf_parent (ρ : zS) (z : Int32) : Int32 := if mf_noScope ρ z = 0 then (if ρ 2 0 (z_ix z) = 0 then -6 else ρ 3 0 (z_ix z)) else -1
def mf_entries (ρ : zS) (z : Int32) : Int32 := if mf_noScope ρ z = 0 then ρ 2 0 (z_ix z) else -1
def mf_view (ρ : zS) (t i : Int32) : Int32 := if mf_idle ρ t = 0 then (if i < 0 then -1 else if i ≤ 11 then (if 0 ≤ mf_viewed ρ t i then ρ 12 0 (z_ix (t * 12 + mf_viewed ρ t i)) else -1) else -1) else -1
-- what is kept
def mf_keeps (ρ : zS) (o : Int32) : Int32 × zS := if o < 0 then (0, ρ) else if ρ 5 0 (z_ix o) = 0 then (if ρ 8 0 (z_ix o) = 0 then (1, z_up ρ 8 0 (z_ix o) (vp_nar .boolean 1)) else (0, ρ)) else (0, ρ)
def mf_ks (q : Int32 × zS) (o : Int32) : Int32 × zS := (if (mf_keeps q.2 o).1 = 0 then q.1 else 1, (mf_keeps q.2 o).2)
def mf_l0 : Nat → Nat → zS → zS
  | 0, _, ρ => ρ
  | k + 1, i, ρ => mf_l0 k (i + 1) (z_up ρ 8 0 i (vp_nar .boolean 0))
def mf_l1 : Nat → Nat → Int32 × zS → Int32 × zS
  | 0, _, q => q
  | k + 1, i, q => mf_l1 k (i + 1) (mf_ks q (q.2 15 0 i))
def mf_l2s (i : Nat) (q : Int32 × zS) : Int32 × zS := if 0 < q.2 5 0 (i / 4) then (if q.2 6 0 (i / 4) ≤ nI (i % 4) then q else mf_ks q (q.2 7 0 i)) else if q.2 5 0 (i / 4) = 0 then (if q.2 8 0 (i / 4) = 0 then q else if q.2 6 0 (i / 4) ≤ nI (i % 4) then q else mf_ks q (q.2 7 0 i)) else q
def mf_l2 : Nat → Nat → Int32 × zS → Int32 × zS
  | 0, _, q => q
  | k + 1, i, q => mf_l2 k (i + 1) (mf_l2s i q)
def mf_l3 : Nat → Int32 × zS → zS
  | 0, q => q.2
  | k + 1, q => if q.1 = 0 then q.2 else mf_l3 k (mf_l2 160 0 (mf_l1 4 0 (0, q.2)))
def mf_kc (ρ : zS) : Nat → Nat → Int32 → Int32
  | 0, _, n => n
  | k + 1, i, n => mf_kc ρ k (i + 1) (if ρ 8 0 i = 0 then n else n + 1)
def mf_keepS (ρ : zS) : zS := mf_l3 41 (1, mf_l0 40 0 ρ)
def mf_keep (ρ : zS) : Int32 × zS := (mf_kc (mf_keepS ρ) 40 0 0, mf_keepS ρ)
def mf_cl : Nat → Nat → Int32 × zS → Int32 × zS
  | 0, _, q => q
  | k + 1, i, q => mf_cl k (i + 1) (if q.2 5 0 i = 0 then (if q.2 8 0 i = 0 then (q.1 + 1, z_up q.2 5 0 i (-1)) else q) else q)
def mf_collect (ρ : zS) : Int32 × zS := mf_cl 40 0 (0, mf_keepS ρ)
def mf_no (ρ : zS) : Nat → Nat → Int32 → Int32
  | 0, _, n => n
  | k + 1, i, n => mf_no ρ k (i + 1) (if ρ 5 0 i < 0 then n else n + 1)
def mf_nb (ρ : zS) : Nat → Nat → Int32 → Int32
  | 0, _, n => n
  | k + 1, i, n => mf_nb ρ k (i + 1) (if ρ 9 0 i = 0 then n else n + 1)
def mf_count (ρ : zS) (w : Int32) : Int32 × zS := if w = 0 then (mf_no ρ 40 0 0, ρ) else if w = 2 then (mf_nb ρ 4 0 0, ρ) else if w = 1 then (ρ 0 0 0, ρ) else if w = 3 then mf_keep ρ else if w ≤ 3 then (-1, ρ) else if 8 ≤ w then (-1, ρ) else (if 0 ≤ ρ 15 0 (z_ix (w - 4)) then ρ 15 0 (z_ix (w - 4)) else -6, ρ)
