/-! WAYS AS NUMBERS: a layer, a crossing, a crossing; 1000000 where there is none -/
def wF (D : Nat → Nat → Nat → Nat) : Nat → Int32 := fun k => nI (D (k / 196) (k / 14 % 14) (k % 14))
def ways (G : GG) (a b : Nat) (D : Nat → Nat → Nat → Nat) : va_W := [(a, .inr (5, [.ref b])), (b, .inl (G.2 0, 980, .inl (wF D)))]
def uD (D : Nat → Nat → Nat → Nat) (d x y v : Nat) : Nat → Nat → Nat → Nat := fun d' x' y' => if d' = d ∧ x' = x ∧ y' = y then v else D d' x' y'
theorem wF_congr {D D' : Nat → Nat → Nat → Nat} (h : ∀ d x y, x < 14 → y < 14 → D d x y = D' d x y) : wF D = wF D' := by
  funext k
  unfold wF
  rw [h _ _ _ (Nat.mod_lt _ (by decide)) (Nat.mod_lt _ (by decide))]
theorem ways_congr {G : GG} {a b : Nat} {D D' : Nat → Nat → Nat → Nat} (h : ∀ d x y, x < 14 → y < 14 → D d x y = D' d x y) : ways G a b D = ways G a b D' := by
  unfold ways
  rw [wF_congr h]
theorem w_ix {d x y : Nat} (hx : x < 14) (hy : y < 14) : ((d * 14 + x) * 14 + y) / 196 = d ∧ ((d * 14 + x) * 14 + y) / 14 % 14 = x ∧ ((d * 14 + x) * 14 + y) % 14 = y := by
  refine ⟨by omega, by omega, by omega⟩
theorem wF_at {D : Nat → Nat → Nat → Nat} {d x y : Nat} (hx : x < 14) (hy : y < 14) : wF D ((d * 14 + x) * 14 + y) = nI (D d x y) := by
  obtain ⟨h1, h2, h3⟩ := w_ix (d := d) hx hy
  unfold wF
  rw [h1, h2, h3]
theorem wF_upd {D : Nat → Nat → Nat → Nat} {d x y v : Nat} (hx : x < 14) (hy : y < 14) : upd (wF D) ((d * 14 + x) * 14 + y) (nI v) = wF (uD D d x y v) := by
  obtain ⟨h1, h2, h3⟩ := w_ix (d := d) hx hy
  funext k
  by_cases hk : k = (d * 14 + x) * 14 + y
  · subst hk
    rw [pk_us]
    unfold wF uD
    rw [if_pos ⟨h1, h2, h3⟩]
  · rw [pk_un hk]
    unfold wF uD
    rw [if_neg (by omega)]
theorem w_ixI {d x y : Nat} : (nI d * 14 + nI x) * 14 + nI y = nI ((d * 14 + x) * 14 + y) := by
  rw [show (14 : Int32) = nI 14 from rfl, pk_mul, nI_add, pk_mul, nI_add]
/-- a layer made empty -/
def clV (d x y : Nat) : Nat := if d = 4 ∧ x = y then 0 else 1000000
def clI (D : Nat → Nat → Nat → Nat) (ly i j : Nat) : Nat → Nat → Nat → Nat := fun d x y => if d = ly ∧ (x < i ∨ (x = i ∧ y < j)) then clV d x y else D d x y
def clD (D : Nat → Nat → Nat → Nat) (ly : Nat) : Nat → Nat → Nat → Nat := fun d x y => if d = ly then clV d x y else D d x y
theorem clI_s {D : Nat → Nat → Nat → Nat} {ly i j : Nat} : uD (clI D ly i j) ly i j (clV ly i j) = clI D ly i (j + 1) := by
  funext d x y
  unfold uD
  by_cases h : d = ly ∧ x = i ∧ y = j
  · obtain ⟨rfl, rfl, rfl⟩ := h
    unfold clI
    rw [if_pos ⟨rfl, rfl, rfl⟩, if_pos ⟨rfl, Or.inr ⟨rfl, by omega⟩⟩]
  · rw [if_neg h]
    unfold clI
    by_cases h2 : d = ly ∧ (x < i ∨ (x = i ∧ y < j))
    · rw [if_pos h2, if_pos ⟨h2.1, by omega⟩]
    · rw [if_neg h2, if_neg (by omega)]
theorem clI_row {G : GG} {a b : Nat} {D : Nat → Nat → Nat → Nat} {ly i : Nat} : ways G a b (clI D ly i 14) = ways G a b (clI D ly (i + 1) 0) := ways_congr fun d x y hx hy => by
  unfold clI
  by_cases h2 : d = ly ∧ (x < i ∨ (x = i ∧ y < 14))
  · rw [if_pos h2, if_pos ⟨h2.1, by omega⟩]
  · rw [if_neg h2, if_neg (by omega)]
theorem clI_0 {G : GG} {a b : Nat} {D : Nat → Nat → Nat → Nat} {ly : Nat} : ways G a b D = ways G a b (clI D ly 0 0) := ways_congr fun d x y hx hy => by
  unfold clI
  rw [if_neg (by omega)]
theorem clI_14 {G : GG} {a b : Nat} {D : Nat → Nat → Nat → Nat} {ly : Nat} : ways G a b (clI D ly 14 0) = ways G a b (clD D ly) := ways_congr fun d x y hx hy => by
  unfold clI clD
  by_cases h2 : d = ly
  · rw [if_pos ⟨h2, by omega⟩, if_pos h2]
  · rw [if_neg (fun h => h2 h.1), if_neg h2]
/-- a row made shorter over another one -/
def shI (D : Nat → Nat → Nat → Nat) (ly fr len ov j : Nat) : Nat → Nat → Nat → Nat := fun d x y => if d = ly ∧ x = fr ∧ y < j then min (D d x y) (len + D d ov y) else D d x y
def shD (D : Nat → Nat → Nat → Nat) (ly fr len ov : Nat) : Nat → Nat → Nat → Nat := fun d x y => if d = ly ∧ x = fr then min (D d x y) (len + D d ov y) else D d x y
theorem shI_0 {D : Nat → Nat → Nat → Nat} {ly fr len ov : Nat} : shI D ly fr len ov 0 = D := by
  funext d x y
  unfold shI
  rw [if_neg (by omega)]
theorem shI_14 {G : GG} {a b : Nat} {D : Nat → Nat → Nat → Nat} {ly fr len ov : Nat} : ways G a b (shI D ly fr len ov 14) = ways G a b (shD D ly fr len ov) := ways_congr fun d x y hx hy => by
  unfold shI shD
  by_cases h2 : d = ly ∧ x = fr
  · rw [if_pos ⟨h2.1, h2.2, hy⟩, if_pos h2]
  · rw [if_neg (fun h => h2 ⟨h.1, h.2.1⟩), if_neg h2]
theorem shI_ov {D : Nat → Nat → Nat → Nat} {ly fr len ov j : Nat} (h : ov ≠ fr) (y : Nat) : shI D ly fr len ov j ly ov y = D ly ov y := by
  unfold shI
  rw [if_neg (fun q => h q.2.1)]
theorem shI_fr {D : Nat → Nat → Nat → Nat} {ly fr len ov j : Nat} : shI D ly fr len ov j ly fr j = D ly fr j := by
  unfold shI
  rw [if_neg (by omega)]
theorem shI_s {D : Nat → Nat → Nat → Nat} {ly fr len ov j : Nat} (h : len + D ly ov j < D ly fr j) : uD (shI D ly fr len ov j) ly fr j (len + D ly ov j) = shI D ly fr len ov (j + 1) := by
  funext d x y
  unfold uD
  by_cases h1 : d = ly ∧ x = fr ∧ y = j
  · obtain ⟨rfl, rfl, rfl⟩ := h1
    unfold shI
    rw [if_pos ⟨rfl, rfl, rfl⟩, if_pos ⟨rfl, rfl, by omega⟩]
    omega
  · rw [if_neg h1]
    unfold shI
    by_cases h2 : d = ly ∧ x = fr ∧ y < j
    · rw [if_pos h2, if_pos ⟨h2.1, h2.2.1, by omega⟩]
    · rw [if_neg h2, if_neg (by omega)]
theorem shI_n {D : Nat → Nat → Nat → Nat} {ly fr len ov j : Nat} (h : D ly fr j ≤ len + D ly ov j) : shI D ly fr len ov j = shI D ly fr len ov (j + 1) := by
  funext d x y
  unfold shI
  by_cases h2 : d = ly ∧ x = fr ∧ y < j
  · rw [if_pos h2, if_pos ⟨h2.1, h2.2.1, by omega⟩]
  · rw [if_neg h2]
    by_cases h3 : d = ly ∧ x = fr ∧ y < j + 1
    · have : y = j := by omega
      obtain ⟨rfl, rfl, -⟩ := h3
      subst this
      rw [if_pos ⟨rfl, rfl, by omega⟩]
      omega
    · rw [if_neg h3]
/-- a lane comes -/
def MD (e : Nat → Nat → Nat) : Prop := ∀ x y z, x < 14 → y < 14 → z < 14 → e x y ≤ 1000000 ∧ e x y = e y x ∧ e x y ≤ e x z + e z y
def dz (e : Nat → Nat → Nat) (a b : Nat) : Nat → Nat → Nat := fun x y => if x = y ∧ (x = a ∨ x = b) then 0 else e x y
def jnN (e : Nat → Nat → Nat) (a b l : Nat) : Nat → Nat → Nat := fun x y => min (dz e a b x y) (min (dz e a b x a + l + dz e a b b y) (dz e a b x b + l + dz e a b a y))
def jI (D : Nat → Nat → Nat → Nat) (ly a b l i : Nat) : Nat → Nat → Nat → Nat := fun d x y => if d = ly then (if x < i then jnN (D ly) a b l x y else dz (D ly) a b x y) else D d x y
def jD (D : Nat → Nat → Nat → Nat) (ly a b l : Nat) : Nat → Nat → Nat → Nat := fun d x y => if d = ly then jnN (D ly) a b l x y else D d x y
theorem dz_MD {e : Nat → Nat → Nat} (h : MD e) (a b : Nat) : MD (dz e a b) := by
  intro x y z hx hy hz
  have h1 := h x y z hx hy hz
  have h2 := h z z z hz hz hz
  unfold dz
  by_cases c1 : x = y ∧ (x = a ∨ x = b)
  · obtain ⟨rfl, hc⟩ := c1
    rw [if_pos ⟨rfl, hc⟩]
    exact ⟨by omega, rfl, by omega⟩
  · have c1' : ¬ (y = x ∧ (y = a ∨ y = b)) := by omega
    rw [if_neg c1, if_neg c1']
    refine ⟨h1.1, h1.2.1, ?_⟩
    by_cases c2 : x = z ∧ (x = a ∨ x = b)
    · obtain ⟨rfl, hc⟩ := c2
      rw [if_pos ⟨rfl, hc⟩, if_neg c1]
      omega
    · rw [if_neg c2]
      by_cases c3 : z = y ∧ (z = a ∨ z = b)
      · obtain ⟨rfl, hc⟩ := c3
        rw [if_pos ⟨rfl, hc⟩]
        omega
      · rw [if_neg c3]
        exact h1.2.2
theorem dz_00 {e : Nat → Nat → Nat} {a b : Nat} : dz e a b a a = 0 ∧ dz e a b b b = 0 := by
  unfold dz
  rw [if_pos ⟨rfl, Or.inl rfl⟩, if_pos ⟨rfl, Or.inr rfl⟩]
  exact ⟨rfl, rfl⟩
theorem jI_0 {G : GG} {p q : Nat} {D : Nat → Nat → Nat → Nat} {ly a b l : Nat} : ways G p q (uD (uD D ly a a 0) ly b b 0) = ways G p q (jI D ly a b l 0) := ways_congr fun d x y hx hy => by
  unfold uD jI dz
  by_cases c0 : d = ly
  · subst c0
    rw [if_pos rfl, if_neg (Nat.not_lt_zero _)]
    by_cases c1 : x = b ∧ y = b
    · rw [if_pos ⟨rfl, c1⟩, if_pos (by omega)]
    · rw [if_neg (fun h => c1 h.2)]
      by_cases c2 : x = a ∧ y = a
      · rw [if_pos ⟨rfl, c2⟩, if_pos (by omega)]
      · rw [if_neg (fun h => c2 h.2), if_neg (by omega)]
  · rw [if_neg (fun h => c0 h.1), if_neg (fun h => c0 h.1), if_neg c0]
theorem jI_14 {G : GG} {p q : Nat} {D : Nat → Nat → Nat → Nat} {ly a b l : Nat} : ways G p q (jI D ly a b l 14) = ways G p q (jD D ly a b l) := ways_congr fun d x y hx hy => by
  unfold jI jD
  by_cases c0 : d = ly
  · rw [if_pos c0, if_pos hx, if_pos c0]
  · rw [if_neg c0, if_neg c0]
theorem jI_row {D : Nat → Nat → Nat → Nat} {ly a b l i : Nat} (y : Nat) : jI D ly a b l i ly i y = dz (D ly) a b i y := by
  unfold jI
  rw [if_pos rfl, if_neg (by omega)]
/-- the row of a crossing, done -/
theorem jn_1 {e : Nat → Nat → Nat} {a b l i y X : Nat} (h : MD e) (ha : a < 14) (hb : b < 14) (hi : i < 14) (hy : y < 14) (hl : 1 ≤ l) (hlt : dz e a b i a + l < dz e a b i b) (hX : X = dz e a b b y ∨ X = jnN e a b l b y) : min (dz e a b i y) (dz e a b i a + l + X) = jnN e a b l i y := by
  have h' := dz_MD h a b
  obtain ⟨z1, z2⟩ := dz_00 (e := e) (a := a) (b := b)
  have t1 := (h' i y a hi hy ha).2.2
  have t2 := (h' i y b hi hy hb).2.2
  have t3 := (h' b y a hb hy ha).2.2
  rcases hX with rfl | rfl
  · unfold jnN
    omega
  · unfold jnN
    rw [z2]
    omega
theorem jn_2 {e : Nat → Nat → Nat} {a b l i y X : Nat} (h : MD e) (ha : a < 14) (hb : b < 14) (hi : i < 14) (hy : y < 14) (hl : 1 ≤ l) (hlt : dz e a b i b + l < dz e a b i a) (hX : X = dz e a b a y ∨ X = jnN e a b l a y) : min (dz e a b i y) (dz e a b i b + l + X) = jnN e a b l i y := by
  have h' := dz_MD h a b
  obtain ⟨z1, z2⟩ := dz_00 (e := e) (a := a) (b := b)
  have t1 := (h' i y a hi hy ha).2.2
  have t2 := (h' i y b hi hy hb).2.2
  have t3 := (h' a y b ha hy hb).2.2
  rcases hX with rfl | rfl
  · unfold jnN
    omega
  · unfold jnN
    rw [z1]
    omega
theorem jn_3 {e : Nat → Nat → Nat} {a b l i y : Nat} (h : MD e) (ha : a < 14) (hb : b < 14) (hi : i < 14) (hy : y < 14) (h1 : dz e a b i b ≤ dz e a b i a + l) (h2 : dz e a b i a ≤ dz e a b i b + l) : dz e a b i y = jnN e a b l i y := by
  have h' := dz_MD h a b
  have t1 := (h' i y a hi hy ha).2.2
  have t2 := (h' i y b hi hy hb).2.2
  unfold jnN
  omega
theorem jI_ov {D : Nat → Nat → Nat → Nat} {ly a b l i o : Nat} (y : Nat) : jI D ly a b l i ly o y = dz (D ly) a b o y ∨ jI D ly a b l i ly o y = jnN (D ly) a b l o y := by
  unfold jI
  rw [if_pos rfl]
  by_cases c : o < i
  · rw [if_pos c]; exact Or.inr rfl
  · rw [if_neg c]; exact Or.inl rfl
theorem jI_sh {G : GG} {p q : Nat} {D : Nat → Nat → Nat → Nat} {ly a b l i len o : Nat} (hs : ∀ y, y < 14 → min (dz (D ly) a b i y) (len + jI D ly a b l i ly o y) = jnN (D ly) a b l i y) : ways G p q (shD (jI D ly a b l i) ly i len o) = ways G p q (jI D ly a b l (i + 1)) := ways_congr fun d x y hx hy => by
  unfold shD
  by_cases c : d = ly ∧ x = i
  · obtain ⟨rfl, rfl⟩ := c
    rw [if_pos ⟨rfl, rfl⟩, jI_row, hs y hy]
    unfold jI
    rw [if_pos rfl, if_pos (by omega)]
  · rw [if_neg c]
    unfold jI
    by_cases c0 : d = ly
    · rw [if_pos c0, if_pos c0]
      by_cases c1 : x < i
      · rw [if_pos c1, if_pos (by omega)]
      · rw [if_neg c1, if_neg (by omega)]
    · rw [if_neg c0, if_neg c0]
theorem jI_no {G : GG} {p q : Nat} {D : Nat → Nat → Nat → Nat} {ly a b l i : Nat} (hs : ∀ y, y < 14 → dz (D ly) a b i y = jnN (D ly) a b l i y) : ways G p q (jI D ly a b l i) = ways G p q (jI D ly a b l (i + 1)) := ways_congr fun d x y hx hy => by
  unfold jI
  by_cases c0 : d = ly
  · rw [if_pos c0, if_pos c0]
    by_cases c1 : x < i
    · rw [if_pos c1, if_pos (by omega)]
    · rw [if_neg c1]
      by_cases c2 : x = i
      · subst c2
        rw [if_pos (by omega)]
        exact hs y hy
      · rw [if_neg (by omega)]
  · rw [if_neg c0, if_neg c0]
/-- all values of a layered distance stay small -/
def WB (D : Nat → Nat → Nat → Nat) : Prop := ∀ d x y, d < 5 → x < 14 → y < 14 → D d x y ≤ 1000000
theorem jI_WB {D : Nat → Nat → Nat → Nat} (h : WB D) {ly a b l i : Nat} : WB (jI D ly a b l i) := by
  intro d x y hd hx hy
  have h1 := h d x y hd hx hy
  unfold jI
  by_cases c0 : d = ly
  · subst c0
    have h2 : dz (D d) a b x y ≤ 1000000 := by
      unfold dz
      split <;> omega
    rw [if_pos rfl]
    split
    · unfold jnN
      omega
    · exact h2
  · rw [if_neg c0]
    exact h1
theorem uD_WB {D : Nat → Nat → Nat → Nat} (h : WB D) {ly a b v : Nat} (hv : v ≤ 1000000) : WB (uD D ly a b v) := by
  intro d x y hd hx hy
  unfold uD
  split
  · exact hv
  · exact h d x y hd hx hy
theorem shI_WB {D : Nat → Nat → Nat → Nat} (h : WB D) {ly fr len ov j : Nat} : WB (shI D ly fr len ov j) := by
  intro d x y hd hx hy
  have h1 := h d x y hd hx hy
  unfold shI
  split <;> omega
theorem clD_WB {D : Nat → Nat → Nat → Nat} (h : WB D) {ly : Nat} : WB (clD D ly) := by
  intro d x y hd hx hy
  have h1 := h d x y hd hx hy
  unfold clD clV
  split
  · split <;> omega
  · omega
theorem jD_WB {D : Nat → Nat → Nat → Nat} (h : WB D) {ly a b l : Nat} : WB (jD D ly a b l) := by
  intro d x y hd hx hy
  have h1 := jI_WB h (ly := ly) (a := a) (b := b) (l := l) (i := 14) d x y hd hx hy
  unfold jI at h1
  unfold jD
  split
  · rename_i c0
    rw [if_pos c0, if_pos hx] at h1
    exact h1
  · rename_i c0
    rw [if_neg c0] at h1
    exact h1

