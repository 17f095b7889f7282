-- the class's state as numbers: area 0 size 1 used 2 entries 3 parent 4 portal; cell 5 fields 6 area 7 fieldCount 8 kept; row 9 stepArea 10 under 11 entered 12 length 13 heapless; 14 statics 15 found 16 foundCount 17 areaCount 18 objectCount
abbrev zS : Type := Nat → Nat → Nat → Int32
def z_up (σ : zS) (f i j : Nat) (v : Int32) : zS := fun f' i' j' => if f' = f ∧ i' = i ∧ j' = j then v else σ f' i' j'
abbrev z_ix (x : Int32) : Nat := x.toNatClampNeg
-- rows
def xf_top (σ : zS) (t : Nat) : Int32 := σ 12 t 0 - 1
def xf_isFull (σ : zS) (t : Nat) : Int32 := if σ 12 t 0 < 12 then 0 else 1
def xf_currentArea (σ : zS) (t : Nat) : Int32 := σ 9 t (z_ix (xf_top σ t))
def xf_topWasEntered (σ : zS) (t : Nat) : Int32 := σ 11 t (z_ix (xf_top σ t))
def xf_push (σ : zS) (t : Nat) (a u b : Int32) : zS := z_up (z_up (z_up (z_up σ 9 t (z_ix (σ 12 t 0)) a) 10 t (z_ix (σ 12 t 0)) u) 11 t (z_ix (σ 12 t 0)) (vp_nar .boolean b)) 12 t 0 (σ 12 t 0 + 1)
def xf_pop (σ : zS) (t : Nat) : zS := z_up σ 12 t 0 (σ 12 t 0 - 1)
def xf_fw (σ : zS) (t : Nat) (a : Int32) : Nat → Int32 → Int32
  | 0, _ => -1
  | k + 1, step => if step = -1 then -1 else if σ 9 t (z_ix step) = a then step else xf_fw σ t a k (σ 10 t (z_ix step))
def xf_firstWith (σ : zS) (t : Nat) (a : Int32) : Int32 := xf_fw σ t a 12 (xf_top σ t)
def xf_hasInView (σ : zS) (t : Nat) (a : Int32) : Int32 := if xf_firstWith σ t a = -1 then 0 else 1
def xf_underOfFirstWith (σ : zS) (t : Nat) (a : Int32) : Int32 := if xf_firstWith σ t a = -1 then -1 else σ 10 t (z_ix (xf_firstWith σ t a))
def xf_ns (σ : zS) (t : Nat) : Nat → Int32 → Int32
  | 0, _ => 0
  | k + 1, step => if step = -1 then 0 else if σ 9 t (z_ix step) < 2 then xf_ns σ t k (σ 10 t (z_ix step)) else σ 9 t (z_ix step)
def xf_nearestScope (σ : zS) (t : Nat) : Int32 := xf_ns σ t 12 (xf_top σ t)
/-- so many steps down (k: what is left of 12; d: what is left of the depth) -/
def xf_av (σ : zS) (t : Nat) : Nat → Nat → Int32 → Int32
  | 0, _, step => step
  | _, 0, step => step
  | k + 1, d + 1, step => if step = -1 then step else xf_av σ t k d (σ 10 t (z_ix step))
def xf_areaInView (σ : zS) (t : Nat) (depth : Int32) : Int32 := if xf_av σ t 12 (z_ix depth) (xf_top σ t) = -1 then -1 else σ 9 t (z_ix (xf_av σ t 12 (z_ix depth) (xf_top σ t)))
-- cells, areas
def xf_free (σ : zS) (i : Nat) : Int32 := σ 0 i 0 - σ 1 i 0
def xf_ff (σ : zS) (i : Nat) : Nat → zS
  | 0 => σ
  | k + 1 => z_up (xf_ff σ i k) 5 i k (-1)
def xf_fill (σ : zS) (i : Nat) (a c : Int32) : zS := xf_ff (z_up (z_up σ 6 i 0 a) 7 i 0 c) i 4
-- tests
def xf_clampBaseSize (x : Int32) : Int32 := if (4 : Int32) < (if x < 60 then x else 60) then (if x < 60 then x else 60) else 4
def xf_isThread (t : Int32) : Int32 := if t < 0 then 0 else if 4 ≤ t then 0 else 1
def xf_isBegun (σ : zS) (t : Int32) : Int32 := if xf_isThread t = 0 then 0 else if σ 12 (z_ix t) 0 ≤ 0 then 0 else 1
def xf_isArea (σ : zS) (a : Int32) : Int32 := if a < 0 then 0 else if σ 17 0 0 ≤ a then 0 else 1
def xf_isScope (σ : zS) (a : Int32) : Int32 := if a < 2 then 0 else if xf_isArea σ a = 0 then 0 else 1
def xf_isObject (σ : zS) (o : Int32) : Int32 := if o < 0 then 0 else if 40 ≤ o then 0 else if σ 6 (z_ix o) 0 = -1 then 0 else 1
def xf_isObjectOrNull (σ : zS) (o : Int32) : Int32 := if o = -1 then 1 else if xf_isObject σ o = 0 then 0 else 1
def xf_hasField (σ : zS) (o f : Int32) : Int32 := if xf_isObject σ o = 0 then 0 else if f < 0 then 0 else if σ 7 (z_ix o) 0 ≤ f then 0 else 1
def xf_objectOrNull (h : Int32) : Int32 := if h = -1 then -6 else h
def xf_sees (σ : zS) (t o : Int32) : Int32 := if σ 6 (z_ix o) 0 = 0 then (if σ 13 (z_ix t) 0 = 0 then 1 else 0) else if σ 6 (z_ix o) 0 = 1 then 1 else if xf_hasInView σ (z_ix t) (σ 6 (z_ix o) 0) = 0 then 0 else 1
def xf_seesOrNull (σ : zS) (t o : Int32) : Int32 := if o = -1 then 1 else if xf_sees σ t o = 0 then 0 else 1
def xf_li (σ : zS) (s : Int32) : Nat → Int32 → Int32
  | 0, _ => 0
  | k + 1, at_ => if xf_isScope σ at_ = 0 then 0 else if at_ = s then 1 else xf_li σ s k (σ 3 (z_ix at_) 0)
def xf_liesIn (σ : zS) (a s : Int32) : Int32 := xf_li σ s 10 a
def xf_mayPointTo (σ : zS) (a o : Int32) : Int32 := if σ 6 (z_ix o) 0 = 0 then 1 else if σ 6 (z_ix o) 0 = 1 then 1 else if xf_liesIn σ a (σ 6 (z_ix o) 0) = 0 then 0 else 1
def xf_bt (σ : zS) : Nat → Nat → Int32 → Int32
  | 0, _, b => b
  | k + 1, i, b => xf_bt σ k (i + 1) (if xf_isBegun σ (nI i) = 0 then b else b + 1)
def xf_begunThreads (σ : zS) : Int32 := xf_bt σ 4 0 0
/-- the least free number from i on, k places -/
def xf_lf (σ : zS) : Nat → Nat → Int32
  | 0, _ => -1
  | k + 1, i => if σ 6 i 0 = -1 then nI i else xf_lf σ k (i + 1)
def xf_leastFreeNumber (σ : zS) : Int32 := xf_lf σ 40 0
def xf_drop (σ : zS) (o : Int32) : zS := z_up (z_up (z_up σ 1 (z_ix (σ 6 (z_ix o) 0)) 0 (σ 1 (z_ix (σ 6 (z_ix o) 0)) 0 - (1 + σ 7 (z_ix o) 0))) 6 (z_ix o) 0 (-1)) 18 0 0 (σ 18 0 0 - 1)
/-- the objects of the scope go, from i on -/
def xf_es (s : Int32) : Nat → Nat → zS → zS
  | 0, _, σ => σ
  | k + 1, i, σ => xf_es s k (i + 1) (if σ 6 i 0 = s then xf_drop σ (nI i) else σ)
def xf_emptyScope (σ : zS) (s : Int32) : zS := z_up (z_up (xf_es s 40 0 σ) 3 (z_ix s) 0 0) 4 (z_ix s) 0 (-1)
def xf_dropEntry (σ : zS) (s : Int32) : zS := if σ 2 (z_ix s) 0 - 1 = 0 then xf_emptyScope (z_up σ 2 (z_ix s) 0 (σ 2 (z_ix s) 0 - 1)) s else z_up σ 2 (z_ix s) 0 (σ 2 (z_ix s) 0 - 1)
-- what is kept
def xf_keep (σ : zS) (o : Int32) : zS := if o = -1 then σ else if ¬ σ 6 (z_ix o) 0 = 0 then σ else if ¬ σ 8 (z_ix o) 0 = 0 then σ else z_up (z_up (z_up σ 8 (z_ix o) 0 1) 15 0 (z_ix (σ 16 0 0)) o) 16 0 0 (σ 16 0 0 + 1)
/-- keep the fields of o, from i on -/
def xf_kl (o : Nat) : Nat → Nat → zS → zS
  | 0, _, σ => σ
  | k + 1, i, σ => if σ 7 o 0 ≤ nI i then σ else xf_kl o k (i + 1) (xf_keep σ (σ 5 o i))
def xf_keepFieldsOf (σ : zS) (o : Int32) : zS := xf_kl (z_ix o) 4 0 σ
def xf_k0 : Nat → Nat → zS → zS
  | 0, _, σ => σ
  | k + 1, i, σ => xf_k0 k (i + 1) (z_up σ 8 i 0 0)
def xf_k1 : Nat → Nat → zS → zS
  | 0, _, σ => σ
  | k + 1, i, σ => xf_k1 k (i + 1) (xf_keep σ (σ 14 0 i))
def xf_k2 : Nat → Nat → zS → zS
  | 0, _, σ => σ
  | k + 1, i, σ => xf_k2 k (i + 1) (if σ 6 i 0 = -1 then σ else if σ 6 i 0 = 0 then σ else xf_keepFieldsOf σ (nI i))
/-- the search goes on: k places left, the next is i -/
def xf_k3 : Nat → Nat → zS → zS
  | 0, _, σ => σ
  | k + 1, i, σ => if σ 16 0 0 ≤ nI i then σ else xf_k3 k (i + 1) (xf_keepFieldsOf σ (σ 15 0 i))
def xf_findKept (σ : zS) : zS := xf_k3 40 0 (xf_k2 40 0 (xf_k1 4 0 (xf_k0 40 0 (z_up σ 16 0 0 0))))
-- the public methods: the answer and the state behind the call
def xf_scope (σ : zS) (size : Int32) : Int32 × zS := if size < 1 then (-1, σ) else if size ≤ 40 then (if σ 17 0 0 < 10 then (σ 17 0 0, z_up (z_up σ 0 (z_ix (σ 17 0 0)) 0 size) 17 0 0 (σ 17 0 0 + 1)) else (-2, σ)) else (-1, σ)
def xf_begin (σ : zS) (t h : Int32) : Int32 × zS := if xf_isThread t = 0 then (-1, σ) else if xf_isBegun σ t = 0 then (0, xf_push (z_up σ 13 (z_ix t) 0 h) (z_ix t) (if h = 0 then 0 else 1) (-1) 0) else (-1, σ)
def xf_enterS (σ : zS) (t z : Int32) : zS := if σ 2 (z_ix z) 0 = 0 then z_up σ 3 (z_ix z) 0 (xf_nearestScope σ (z_ix t)) else σ
def xf_enterT (σ : zS) (t z : Int32) : zS := z_up (xf_enterS σ t z) 2 (z_ix z) 0 (σ 2 (z_ix z) 0 + 1)
def xf_enterR (σ : zS) (t z : Int32) : Int32 × zS := if xf_isFull σ (z_ix t) = 0 then (σ 2 (z_ix z) 0 + 1, xf_push (xf_enterT σ t z) (z_ix t) z (xf_top σ (z_ix t)) 1) else (-2, σ)
def xf_enter (σ : zS) (t z : Int32) : Int32 × zS := if xf_isBegun σ t = 0 then (-1, σ) else if xf_isScope σ z = 0 then (-1, σ) else if xf_hasInView σ (z_ix t) z = 0 then (if σ 2 (z_ix z) 0 ≤ 0 then xf_enterR σ t z else if σ 3 (z_ix z) 0 = xf_nearestScope σ (z_ix t) then xf_enterR σ t z else (-3, σ)) else (-3, σ)
def xf_turn3 (σ : zS) (t a : Int32) : Int32 × zS := if xf_isFull σ (z_ix t) = 0 then (σ 12 (z_ix t) 0 + 1, xf_push σ (z_ix t) a (if xf_isScope σ a = 0 then -1 else xf_underOfFirstWith σ (z_ix t) a) 0) else (-2, σ)
def xf_turn2 (σ : zS) (t a : Int32) : Int32 × zS := if xf_isScope σ a = 0 then xf_turn3 σ t a else if xf_hasInView σ (z_ix t) a = 0 then (-4, σ) else xf_turn3 σ t a
def xf_turn (σ : zS) (t a : Int32) : Int32 × zS := if xf_isBegun σ t = 0 then (-1, σ) else if xf_isArea σ a = 0 then (-1, σ) else if a = 0 then (if σ 13 (z_ix t) 0 = 0 then xf_turn2 σ t a else (-5, σ)) else xf_turn2 σ t a
def xf_leave (σ : zS) (t : Int32) : Int32 × zS := if xf_isBegun σ t = 0 then (-1, σ) else (σ 12 (z_ix t) 0 - 1, if xf_topWasEntered σ (z_ix t) = 0 then xf_pop σ (z_ix t) else xf_dropEntry (xf_pop σ (z_ix t)) (xf_currentArea σ (z_ix t)))
def xf_make (σ : zS) (t f : Int32) : Int32 × zS := if xf_isBegun σ t = 0 then (-1, σ) else if f < 0 then (-1, σ) else if f ≤ 4 then (if xf_leastFreeNumber σ = -1 then (-2, σ) else if 1 + f ≤ xf_free σ (z_ix (xf_currentArea σ (z_ix t))) then (xf_leastFreeNumber σ, z_up (z_up (xf_fill σ (z_ix (xf_leastFreeNumber σ)) (xf_currentArea σ (z_ix t)) f) 1 (z_ix (xf_currentArea σ (z_ix t))) 0 (σ 1 (z_ix (xf_currentArea σ (z_ix t))) 0 + (1 + f))) 18 0 0 (σ 18 0 0 + 1)) else (-2, σ)) else (-1, σ)
def xf_put (σ : zS) (t o f g : Int32) : Int32 × zS := if xf_isBegun σ t = 0 then (-1, σ) else if xf_hasField σ o f = 0 then (-1, σ) else if xf_isObjectOrNull σ g = 0 then (-1, σ) else if xf_sees σ t o = 0 then (-4, σ) else if xf_seesOrNull σ t g = 0 then (-4, σ) else if g = -1 then (0, z_up σ 5 (z_ix o) (z_ix f) g) else if xf_mayPointTo σ (σ 6 (z_ix o) 0) g = 0 then (-5, σ) else (0, z_up σ 5 (z_ix o) (z_ix f) g)
def xf_get (σ : zS) (t o f : Int32) : Int32 := if xf_isBegun σ t = 0 then -1 else if xf_hasField σ o f = 0 then -1 else if xf_sees σ t o = 0 then -4 else if σ 5 (z_ix o) (z_ix f) = -1 then -6 else if xf_sees σ t (σ 5 (z_ix o) (z_ix f)) = 0 then -4 else σ 5 (z_ix o) (z_ix f)
def xf_hang (σ : zS) (t z o : Int32) : Int32 × zS := if xf_isBegun σ t = 0 then (-1, σ) else if xf_isScope σ z = 0 then (-1, σ) else if xf_isObjectOrNull σ o = 0 then (-1, σ) else if xf_hasInView σ (z_ix t) z = 0 then (-4, σ) else if xf_seesOrNull σ t o = 0 then (-4, σ) else if o = -1 then (0, z_up σ 4 (z_ix z) 0 o) else if σ 6 (z_ix o) 0 = z then (0, z_up σ 4 (z_ix z) 0 o) else (-5, σ)
def xf_portal (σ : zS) (t z : Int32) : Int32 := if xf_isBegun σ t = 0 then -1 else if xf_isScope σ z = 0 then -1 else if xf_hasInView σ (z_ix t) z = 0 then -4 else xf_objectOrNull (σ 4 (z_ix z) 0)
def xf_assign (σ : zS) (t k o : Int32) : Int32 × zS := if xf_isBegun σ t = 0 then (-1, σ) else if k < 0 then (-1, σ) else if 4 ≤ k then (-1, σ) else if xf_isObjectOrNull σ o = 0 then (-1, σ) else if xf_seesOrNull σ t o = 0 then (-4, σ) else if o = -1 then (0, z_up σ 14 0 (z_ix k) o) else if xf_isScope σ (σ 6 (z_ix o) 0) = 0 then (0, z_up σ 14 0 (z_ix k) o) else (-5, σ)
def xf_co : Nat → Nat → zS → zS
  | 0, _, σ => σ
  | k + 1, i, σ => xf_co k (i + 1) (if σ 6 i 0 = 0 then (if σ 8 i 0 = 0 then xf_drop σ (nI i) else σ) else σ)
def xf_collect (σ : zS) : Int32 × zS := ((xf_findKept σ) 18 0 0 - (xf_co 40 0 (xf_findKept σ)) 18 0 0, xf_co 40 0 (xf_findKept σ))
def xf_areaOf (σ : zS) (o : Int32) : Int32 := if xf_isObject σ o = 0 then -1 else σ 6 (z_ix o) 0
def xf_room (σ : zS) (a : Int32) : Int32 := if xf_isArea σ a = 0 then -1 else xf_free σ (z_ix a)
def xf_parent (σ : zS) (z : Int32) : Int32 := if xf_isScope σ z = 0 then -1 else if σ 2 (z_ix z) 0 ≤ 0 then -6 else σ 3 (z_ix z) 0
def xf_entries (σ : zS) (z : Int32) : Int32 := if xf_isScope σ z = 0 then -1 else σ 2 (z_ix z) 0
def xf_view (σ : zS) (t i : Int32) : Int32 := if xf_isBegun σ t = 0 then -1 else if 0 ≤ i then (if xf_areaInView σ (z_ix t) i = -1 then -1 else xf_areaInView σ (z_ix t) i) else -1
def xf_count (σ : zS) (w : Int32) : Int32 × zS := if w = 0 then (σ 18 0 0, σ) else if w = 1 then (σ 17 0 0, σ) else if w = 2 then (xf_begunThreads σ, σ) else if w = 3 then ((xf_findKept σ) 16 0 0, xf_findKept σ) else if w = 4 then (xf_objectOrNull (σ 14 0 0), σ) else if w = 5 then (xf_objectOrNull (σ 14 0 1), σ) else if w = 6 then (xf_objectOrNull (σ 14 0 2), σ) else if w = 7 then (xf_objectOrNull (σ 14 0 3), σ) else (-1, σ)
def z_o (N : Nat) (x : Int32) : Prop := x = -1 ∨ vp_in x N
def xI1 (σ : zS) : Prop := σ 17 0 0 ≤ 10 ∧ 2 ≤ σ 17 0 0
def xI2 (σ : zS) : Prop := ∀ i, i < 10 → vp_in (σ 3 i 0) 10
def xI3 (σ : zS) : Prop := ∀ i, i < 40 → z_o 10 (σ 6 i 0)
def xI4 (σ : zS) : Prop := ∀ i, i < 40 → vp_in (σ 7 i 0) 5
def xI5 (σ : zS) : Prop := ∀ i, i < 40 → ∀ j, j < 4 → z_o 40 (σ 5 i j)
def xI6 (σ : zS) : Prop := ∀ t, t < 4 → vp_in (σ 12 t 0) 13
def xI7 (σ : zS) : Prop := ∀ t, t < 4 → ∀ j, j < 12 → z_o 12 (σ 10 t j)
def xI8 (σ : zS) : Prop := ∀ t, t < 4 → ∀ j, j < 12 → vp_in (σ 9 t j) 10
def xI9 (σ : zS) : Prop := ∀ j, j < 4 → z_o 40 (σ 14 0 j)
def xI10 (σ : zS) : Prop := ∀ t, t < 4 → ∀ j, j < 12 → narrow .boolean (.int (σ 11 t j)) = .int (σ 11 t j)
def xI (σ : zS) : Prop := xI1 σ ∧ xI2 σ ∧ xI3 σ ∧ xI4 σ ∧ xI5 σ ∧ xI6 σ ∧ xI7 σ ∧ xI8 σ ∧ xI9 σ ∧ xI10 σ
theorem z_at (σ : zS) (f i j : Nat) (v : Int32) (f' i' j' : Nat) : z_up σ f i j v f' i' j' = if f' = f ∧ i' = i ∧ j' = j then v else σ f' i' j' := rfl
theorem xI_u0 {σ : zS} {i : Nat} {v : Int32} (h : xI σ) : xI (z_up σ 0 i 0 v) :=
  ⟨h.1, h.2.1, h.2.2.1, h.2.2.2.1, h.2.2.2.2.1, h.2.2.2.2.2.1, h.2.2.2.2.2.2.1, h.2.2.2.2.2.2.2.1, h.2.2.2.2.2.2.2.2.1, h.2.2.2.2.2.2.2.2.2⟩
theorem xI_u1 {σ : zS} {i : Nat} {v : Int32} (h : xI σ) : xI (z_up σ 1 i 0 v) :=
  ⟨h.1, h.2.1, h.2.2.1, h.2.2.2.1, h.2.2.2.2.1, h.2.2.2.2.2.1, h.2.2.2.2.2.2.1, h.2.2.2.2.2.2.2.1, h.2.2.2.2.2.2.2.2.1, h.2.2.2.2.2.2.2.2.2⟩
theorem xI_u2 {σ : zS} {i : Nat} {v : Int32} (h : xI σ) : xI (z_up σ 2 i 0 v) :=
  ⟨h.1, h.2.1, h.2.2.1, h.2.2.2.1, h.2.2.2.2.1, h.2.2.2.2.2.1, h.2.2.2.2.2.2.1, h.2.2.2.2.2.2.2.1, h.2.2.2.2.2.2.2.2.1, h.2.2.2.2.2.2.2.2.2⟩
theorem xI_u3 {σ : zS} {i : Nat} {v : Int32} (h : xI σ) (hv : vp_in v 10) : xI (z_up σ 3 i 0 v) :=
  ⟨h.1, (fun a ha => by rw [z_at]; split; exact hv; exact h.2.1 a ha), h.2.2.1, h.2.2.2.1, h.2.2.2.2.1, h.2.2.2.2.2.1, h.2.2.2.2.2.2.1, h.2.2.2.2.2.2.2.1, h.2.2.2.2.2.2.2.2.1, h.2.2.2.2.2.2.2.2.2⟩
theorem xI_u4 {σ : zS} {i : Nat} {v : Int32} (h : xI σ) : xI (z_up σ 4 i 0 v) :=
  ⟨h.1, h.2.1, h.2.2.1, h.2.2.2.1, h.2.2.2.2.1, h.2.2.2.2.2.1, h.2.2.2.2.2.2.1, h.2.2.2.2.2.2.2.1, h.2.2.2.2.2.2.2.2.1, h.2.2.2.2.2.2.2.2.2⟩
theorem xI_u5 {σ : zS} {i j : Nat} {v : Int32} (h : xI σ) (hv : z_o 40 v) : xI (z_up σ 5 i j v) :=
  ⟨h.1, h.2.1, h.2.2.1, h.2.2.2.1, (fun a ha b hb => by rw [z_at]; split; exact hv; exact h.2.2.2.2.1 a ha b hb), h.2.2.2.2.2.1, h.2.2.2.2.2.2.1, h.2.2.2.2.2.2.2.1, h.2.2.2.2.2.2.2.2.1, h.2.2.2.2.2.2.2.2.2⟩
theorem xI_u6 {σ : zS} {i : Nat} {v : Int32} (h : xI σ) (hv : z_o 10 v) : xI (z_up σ 6 i 0 v) :=
  ⟨h.1, h.2.1, (fun a ha => by rw [z_at]; split; exact hv; exact h.2.2.1 a ha), h.2.2.2.1, h.2.2.2.2.1, h.2.2.2.2.2.1, h.2.2.2.2.2.2.1, h.2.2.2.2.2.2.2.1, h.2.2.2.2.2.2.2.2.1, h.2.2.2.2.2.2.2.2.2⟩
theorem xI_u7 {σ : zS} {i : Nat} {v : Int32} (h : xI σ) (hv : vp_in v 5) : xI (z_up σ 7 i 0 v) :=
  ⟨h.1, h.2.1, h.2.2.1, (fun a ha => by rw [z_at]; split; exact hv; exact h.2.2.2.1 a ha), h.2.2.2.2.1, h.2.2.2.2.2.1, h.2.2.2.2.2.2.1, h.2.2.2.2.2.2.2.1, h.2.2.2.2.2.2.2.2.1, h.2.2.2.2.2.2.2.2.2⟩
theorem xI_u8 {σ : zS} {i : Nat} {v : Int32} (h : xI σ) : xI (z_up σ 8 i 0 v) :=
  ⟨h.1, h.2.1, h.2.2.1, h.2.2.2.1, h.2.2.2.2.1, h.2.2.2.2.2.1, h.2.2.2.2.2.2.1, h.2.2.2.2.2.2.2.1, h.2.2.2.2.2.2.2.2.1, h.2.2.2.2.2.2.2.2.2⟩
theorem xI_u9 {σ : zS} {i j : Nat} {v : Int32} (h : xI σ) (hv : vp_in v 10) : xI (z_up σ 9 i j v) :=
  ⟨h.1, h.2.1, h.2.2.1, h.2.2.2.1, h.2.2.2.2.1, h.2.2.2.2.2.1, h.2.2.2.2.2.2.1, (fun a ha b hb => by rw [z_at]; split; exact hv; exact h.2.2.2.2.2.2.2.1 a ha b hb), h.2.2.2.2.2.2.2.2.1, h.2.2.2.2.2.2.2.2.2⟩
theorem xI_u10 {σ : zS} {i j : Nat} {v : Int32} (h : xI σ) (hv : z_o 12 v) : xI (z_up σ 10 i j v) :=
  ⟨h.1, h.2.1, h.2.2.1, h.2.2.2.1, h.2.2.2.2.1, h.2.2.2.2.2.1, (fun a ha b hb => by rw [z_at]; split; exact hv; exact h.2.2.2.2.2.2.1 a ha b hb), h.2.2.2.2.2.2.2.1, h.2.2.2.2.2.2.2.2.1, h.2.2.2.2.2.2.2.2.2⟩
theorem xI_u11 {σ : zS} {i j : Nat} {v : Int32} (h : xI σ) (hv : narrow .boolean (.int v) = .int v) : xI (z_up σ 11 i j v) :=
  ⟨h.1, h.2.1, h.2.2.1, h.2.2.2.1, h.2.2.2.2.1, h.2.2.2.2.2.1, h.2.2.2.2.2.2.1, h.2.2.2.2.2.2.2.1, h.2.2.2.2.2.2.2.2.1, (fun a ha b hb => by rw [z_at]; split; exact hv; exact h.2.2.2.2.2.2.2.2.2 a ha b hb)⟩
theorem xI_u12 {σ : zS} {i : Nat} {v : Int32} (h : xI σ) (hv : vp_in v 13) : xI (z_up σ 12 i 0 v) :=
  ⟨h.1, h.2.1, h.2.2.1, h.2.2.2.1, h.2.2.2.2.1, (fun a ha => by rw [z_at]; split; exact hv; exact h.2.2.2.2.2.1 a ha), h.2.2.2.2.2.2.1, h.2.2.2.2.2.2.2.1, h.2.2.2.2.2.2.2.2.1, h.2.2.2.2.2.2.2.2.2⟩
theorem xI_u13 {σ : zS} {i : Nat} {v : Int32} (h : xI σ) : xI (z_up σ 13 i 0 v) :=
  ⟨h.1, h.2.1, h.2.2.1, h.2.2.2.1, h.2.2.2.2.1, h.2.2.2.2.2.1, h.2.2.2.2.2.2.1, h.2.2.2.2.2.2.2.1, h.2.2.2.2.2.2.2.2.1, h.2.2.2.2.2.2.2.2.2⟩
theorem xI_u14 {σ : zS} {j : Nat} {v : Int32} (h : xI σ) (hv : z_o 40 v) : xI (z_up σ 14 0 j v) :=
  ⟨h.1, h.2.1, h.2.2.1, h.2.2.2.1, h.2.2.2.2.1, h.2.2.2.2.2.1, h.2.2.2.2.2.2.1, h.2.2.2.2.2.2.2.1, (fun a ha => by rw [z_at]; split; exact hv; exact h.2.2.2.2.2.2.2.2.1 a ha), h.2.2.2.2.2.2.2.2.2⟩
theorem xI_u15 {σ : zS} {j : Nat} {v : Int32} (h : xI σ) : xI (z_up σ 15 0 j v) :=
  ⟨h.1, h.2.1, h.2.2.1, h.2.2.2.1, h.2.2.2.2.1, h.2.2.2.2.2.1, h.2.2.2.2.2.2.1, h.2.2.2.2.2.2.2.1, h.2.2.2.2.2.2.2.2.1, h.2.2.2.2.2.2.2.2.2⟩
theorem xI_u16 {σ : zS} {v : Int32} (h : xI σ) : xI (z_up σ 16 0 0 v) :=
  ⟨h.1, h.2.1, h.2.2.1, h.2.2.2.1, h.2.2.2.2.1, h.2.2.2.2.2.1, h.2.2.2.2.2.2.1, h.2.2.2.2.2.2.2.1, h.2.2.2.2.2.2.2.2.1, h.2.2.2.2.2.2.2.2.2⟩
theorem xI_u17 {σ : zS} {v : Int32} (h : xI σ) (hv : v ≤ 10 ∧ 2 ≤ v) : xI (z_up σ 17 0 0 v) :=
  ⟨(by unfold xI1; rw [z_at]; split; exact hv; exact h.1), h.2.1, h.2.2.1, h.2.2.2.1, h.2.2.2.2.1, h.2.2.2.2.2.1, h.2.2.2.2.2.2.1, h.2.2.2.2.2.2.2.1, h.2.2.2.2.2.2.2.2.1, h.2.2.2.2.2.2.2.2.2⟩
theorem xI_u18 {σ : zS} {v : Int32} (h : xI σ) : xI (z_up σ 18 0 0 v) :=
  ⟨h.1, h.2.1, h.2.2.1, h.2.2.2.1, h.2.2.2.2.1, h.2.2.2.2.2.1, h.2.2.2.2.2.2.1, h.2.2.2.2.2.2.2.1, h.2.2.2.2.2.2.2.2.1, h.2.2.2.2.2.2.2.2.2⟩
theorem z_vin {x M : Int32} {N : Nat} (h0 : ¬ x < 0) (h1 : ¬ M ≤ x) (hM : M.toInt = N) : vp_in x N := by
  rw [vp_in_iff]
  rw [Int32.lt_iff_toInt_lt, Int32.toInt_zero] at h0
  rw [Int32.le_iff_toInt_le, hM] at h1
  omega
theorem z_vlt {x : Int32} {N : Nat} (h : vp_in x N) : x.toNatClampNeg < N := Nat.not_le.mp fun q => h (Or.inr q)
theorem z_ovin {x : Int32} {N : Nat} (h : z_o N x) (h1 : ¬ x = -1) : vp_in x N := h.resolve_left h1
theorem z_vmono {x : Int32} {N M : Nat} (h : vp_in x N) (hN : N ≤ M) : vp_in x M := by
  rw [vp_in_iff] at h ⊢
  omega
theorem z_area {σ : zS} {a : Int32} (h : xI1 σ) (h0 : ¬ a < 0) (h1 : ¬ σ 17 0 0 ≤ a) : vp_in a 10 := by
  rw [vp_in_iff]
  have h2 := h.1
  rw [Int32.lt_iff_toInt_lt, Int32.toInt_zero] at h0
  rw [Int32.le_iff_toInt_le] at h1 h2
  have : (10 : Int32).toInt = 10 := rfl
  omega
