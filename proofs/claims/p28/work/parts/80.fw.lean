/-! THE REFERENCE'S WAYS, WORKED OUT PLACE BY PLACE, ARE THE CLASS'S -/
def fwF (M : Nat → Nat) (v : Nat) : Nat → Nat := fun k => min (M k) (M (14 * (k / 14) + v) + M (14 * v + k % 14))
def fwN (M : Nat → Nat) : Nat → (Nat → Nat)
  | 0 => M
  | v + 1 => fwF (fwN M v) v
def mxF (M : Nat → Nat) (v j : Nat) : Nat → Nat := fun k => if k < j then fwF M v k else M k
def blk (w : Nat → Nat) (d : Nat) (M : Nat → Nat) : Nat → Nat := fun k => if 196 * d ≤ k ∧ k < 196 * d + 196 then M (k - 196 * d) else w k
def jnM (M : Nat → Nat) (a b l : Nat) : Nat → Nat := updN (updN M (14 * a + b) (min l (M (14 * a + b)))) (14 * b + a) (min l (M (14 * a + b)))
def jnE (g : Nat → Nat) (p : Nat → Bool) (M : Nat → Nat) : Nat → (Nat → Nat)
  | 0 => M
  | i + 1 => if p i then jnM (jnE g p M i) (lnC g i 0) (lnC g i 1) (lnC g i 2) else jnE g p M i
def inI (g : Nat → Nat) (n d x : Nat) : Bool := anyB (fun i => told g i && (lnC g i 3 == d && (lnC g i 0 == x || lnC g i 1 == x))) n
def inn (g : Nat → Nat) (d x : Nat) : Bool := inI g (kL g) d x
def in0 (g : Nat → Nat) (d : Nat) : Nat → Nat := fun k => if k / 14 = k % 14 ∧ (d = 4 ∨ inn g d (k / 14) = true) then 0 else 1000000
theorem fx {x y : Nat} (hy : y < 14) : (14 * x + y) / 14 = x ∧ (14 * x + y) % 14 = y := by omega
theorem fwF_at {M : Nat → Nat} {v x y : Nat} (hy : y < 14) : fwF M v (14 * x + y) = min (M (14 * x + y)) (M (14 * x + v) + M (14 * v + y)) := by
  unfold fwF
  rw [(fx hy).1, (fx hy).2]
theorem fwF_c {M : Nat → Nat} {v x y : Nat} (hy : y < 14) : fwF M v (14 * x + y) ≤ M (14 * x + y) ∧ fwF M v (14 * x + y) ≤ M (14 * x + v) + M (14 * v + y) ∧ (fwF M v (14 * x + y) = M (14 * x + y) ∨ fwF M v (14 * x + y) = M (14 * x + v) + M (14 * v + y)) := by
  rw [fwF_at hy]
  refine ⟨Nat.min_le_left _ _, Nat.min_le_right _ _, ?_⟩
  rcases Nat.le_total (M (14 * x + y)) (M (14 * x + v) + M (14 * v + y)) with h | h
  · exact Or.inl (Nat.min_eq_left h)
  · exact Or.inr (Nat.min_eq_right h)
theorem fwF_le {M : Nat → Nat} {v k : Nat} : fwF M v k ≤ M k := Nat.min_le_left _ _
theorem fwN_le {M : Nat → Nat} {k : Nat} : ∀ v, fwN M v k ≤ M k
  | 0 => Nat.le_refl _
  | v + 1 => Nat.le_trans fwF_le (fwN_le v)
/-- what keeps the triangle's law and is below at the start stays below -/
theorem fw_low {h : Nat → Nat → Nat} (ht : ∀ x y z, x < 14 → y < 14 → z < 14 → h x y ≤ h x z + h z y) {M : Nat → Nat} (hM : ∀ x y, x < 14 → y < 14 → h x y ≤ M (14 * x + y)) : ∀ v, v ≤ 14 → ∀ x y, x < 14 → y < 14 → h x y ≤ fwN M v (14 * x + y)
  | 0, _, x, y, hx, hy => hM x y hx hy
  | v + 1, hv, x, y, hx, hy => by
    have ih := fw_low ht hM v (by omega)
    show h x y ≤ fwF (fwN M v) v (14 * x + y)
    obtain ⟨-, -, c⟩ := fwF_c (M := fwN M v) (v := v) (x := x) hy
    have i1 := ih x y hx hy
    have i2 := ih x v hx (by omega)
    have i3 := ih v y (by omega) hy
    have i4 := ht x y v hx hy (by omega)
    rcases c with c | c <;> omega
theorem fw_tri {M : Nat → Nat} : ∀ v, v ≤ 14 → ∀ x y z, x < 14 → y < 14 → z < v → fwN M v (14 * x + y) ≤ fwN M v (14 * x + z) + fwN M v (14 * z + y)
  | 0, _, x, y, z, hx, hy, hz => absurd hz (Nat.not_lt_zero _)
  | v + 1, hv, x, y, z, hx, hy, hz => by
    have ih := fw_tri (M := M) v (by omega)
    show fwF (fwN M v) v (14 * x + y) ≤ fwF (fwN M v) v (14 * x + z) + fwF (fwN M v) v (14 * z + y)
    obtain ⟨a1, a2, -⟩ := fwF_c (M := fwN M v) (v := v) (x := x) hy
    obtain ⟨-, -, b3⟩ := fwF_c (M := fwN M v) (v := v) (x := x) (y := z) (by omega)
    obtain ⟨-, -, c3⟩ := fwF_c (M := fwN M v) (v := v) (x := z) hy
    by_cases hzv : z = v
    · subst hzv
      rcases b3 with b3 | b3 <;> rcases c3 with c3 | c3 <;> omega
    · have t1 := ih x y z hx hy (by omega)
      have t2 := ih x v z hx (by omega) (by omega)
      have t3 := ih v y z (by omega) hy (by omega)
      rcases b3 with b3 | b3 <;> rcases c3 with c3 | c3 <;> omega
theorem fw_big {M : Nat → Nat} (hM : ∀ k, M k < 1000000 → M k ≤ 20) : ∀ v k, fwN M v k < 1000000 → fwN M v k ≤ 20 * 2 ^ v
  | 0, k, h => by have := hM k h; simpa [fwN] using this
  | v + 1, k, h => by
    have e : fwN M (v + 1) k = min (fwN M v k) (fwN M v (14 * (k / 14) + v) + fwN M v (14 * v + k % 14)) := rfl
    have i1 := fw_big hM v k
    have i2 := fw_big hM v (14 * (k / 14) + v)
    have i3 := fw_big hM v (14 * v + k % 14)
    rw [Nat.pow_succ]
    omega
theorem fw_row {M : Nat → Nat} {x : Nat} (hM : ∀ y, y < 14 → 1000000 ≤ M (14 * x + y)) : ∀ v, v ≤ 14 → ∀ y, y < 14 → 1000000 ≤ fwN M v (14 * x + y)
  | 0, _, y, hy => hM y hy
  | v + 1, hv, y, hy => by
    have i1 := fw_row hM v (by omega) y hy
    have i2 := fw_row hM v (by omega) v (by omega)
    obtain ⟨-, -, c⟩ := fwF_c (M := fwN M v) (v := v) (x := x) hy
    show 1000000 ≤ fwF (fwN M v) v (14 * x + y)
    rcases c with c | c <;> omega
theorem mx_c {M : Nat → Nat} {v j x : Nat} (hv : v < 14) : mxF M v j (14 * x + v) = M (14 * x + v) := by
  unfold mxF
  split
  · rw [fwF_at hv, Nat.min_eq_left (by omega)]
  · rfl
theorem mx_r {M : Nat → Nat} {v j y : Nat} (hy : y < 14) : mxF M v j (14 * v + y) = M (14 * v + y) := by
  unfold mxF
  split
  · rw [fwF_at hy, Nat.min_eq_left (by omega)]
  · rfl
theorem mx_j {M : Nat → Nat} {v j : Nat} : mxF M v j j = M j := if_neg (by omega)
theorem mx_s {M : Nat → Nat} {v j : Nat} : updN (mxF M v j) j (fwF M v j) = mxF M v (j + 1) := by
  funext k
  unfold updN mxF
  by_cases h : k = j
  · subst h
    rw [if_pos rfl, if_pos (by omega)]
  · rw [if_neg h]
    by_cases h2 : k < j
    · rw [if_pos h2, if_pos (by omega)]
    · rw [if_neg h2, if_neg (by omega)]
theorem blk_at {w M : Nat → Nat} {d j : Nat} (hj : j < 196) : blk w d M (196 * d + j) = M j := by
  unfold blk
  rw [if_pos (by omega)]
  congr 1
  omega
theorem blk_upd {w M : Nat → Nat} {d j v : Nat} (hj : j < 196) : updN (blk w d M) (196 * d + j) v = blk w d (updN M j v) := by
  funext k
  unfold updN blk
  by_cases h : k = 196 * d + j
  · subst h
    rw [if_pos rfl, if_pos (by omega)]
    show _ = if _ then _ else _
    rw [if_pos (by omega)]
  · rw [if_neg h]
    by_cases h2 : 196 * d ≤ k ∧ k < 196 * d + 196
    · rw [if_pos h2, if_pos h2]
      show _ = if _ then _ else _
      rw [if_neg (by omega)]
    · rw [if_neg h2, if_neg h2]
theorem blk_c {w M M' : Nat → Nat} {d : Nat} (h : ∀ k, k < 196 → M k = M' k) : blk w d M = blk w d M' := by
  funext k
  unfold blk
  split
  · exact h _ (by omega)
  · rfl
/-- the next place -/
theorem mx_n {w E : Nat → Nat} {d k : Nat} : blk w d (mxF (fwN E (k / 196)) (k / 196) (k % 196 + 1)) = blk w d (mxF (fwN E ((k + 1) / 196)) ((k + 1) / 196) ((k + 1) % 196)) := by
  by_cases h : k % 196 + 1 = 196
  · rw [show (k + 1) / 196 = k / 196 + 1 by omega, show (k + 1) % 196 = 0 by omega, h]
    refine blk_c fun j hj => ?_
    unfold mxF
    rw [if_pos hj, if_neg (by omega)]
    rfl
  · rw [show (k + 1) / 196 = k / 196 by omega, show (k + 1) % 196 = k % 196 + 1 by omega]
/-- the rows that the lanes give -/
theorem jnM_at {M : Nat → Nat} {a b l x y : Nat} (ha : a < 14) (hb : b < 14) (hy : y < 14) : jnM M a b l (14 * x + y) = if (x = b ∧ y = a) ∨ (x = a ∧ y = b) then min l (M (14 * a + b)) else M (14 * x + y) := by
  unfold jnM updN
  by_cases h1 : 14 * x + y = 14 * b + a
  · rw [if_pos h1, if_pos (Or.inl (by omega))]
  · rw [if_neg h1]
    by_cases h2 : 14 * x + y = 14 * a + b
    · rw [if_pos h2, if_pos (Or.inr (by omega))]
    · rw [if_neg h2, if_neg (by omega)]
def lok (g : Nat → Nat) (n : Nat) : Prop := ∀ i, i < n → lnC g i 0 < 14 ∧ lnC g i 1 < 14 ∧ lnC g i 0 ≠ lnC g i 1 ∧ 1 ≤ lnC g i 2 ∧ lnC g i 2 ≤ 20
theorem lok_le {g : Nat → Nat} {n n' : Nat} (h : lok g n) (hn : n' ≤ n) : lok g n' := fun i hi => h i (by omega)
theorem jnE_sym {g : Nat → Nat} {p : Nat → Bool} {M : Nat → Nat} (hM : ∀ x y, x < 14 → y < 14 → M (14 * x + y) = M (14 * y + x)) : ∀ {i : Nat}, lok g i → ∀ x y, x < 14 → y < 14 → jnE g p M i (14 * x + y) = jnE g p M i (14 * y + x)
  | 0, _, x, y, hx, hy => hM x y hx hy
  | i + 1, hl, x, y, hx, hy => by
    have ih := jnE_sym hM (p := p) (lok_le hl (Nat.le_succ i)) x y hx hy
    obtain ⟨ha, hb, -⟩ := hl i (by omega)
    show (if p i then _ else _ : Nat → Nat) _ = (if p i then _ else _ : Nat → Nat) _
    split
    · rw [jnM_at ha hb hy, jnM_at ha hb hx, ih]
      by_cases h : (x = lnC g i 1 ∧ y = lnC g i 0) ∨ (x = lnC g i 0 ∧ y = lnC g i 1)
      · rw [if_pos h, if_pos (by omega)]
      · rw [if_neg h, if_neg (by omega)]
    · exact ih
theorem jnE_s {g : Nat → Nat} {p : Nat → Bool} {M : Nat → Nat} (hM : ∀ x y, x < 14 → y < 14 → M (14 * x + y) = M (14 * y + x)) {i : Nat} (hl : lok g (i + 1)) {x y : Nat} (hx : x < 14) (hy : y < 14) : jnE g p M (i + 1) (14 * x + y) ≤ jnE g p M i (14 * x + y) := by
  have hs := jnE_sym hM (p := p) (lok_le hl (Nat.le_succ i))
  obtain ⟨ha, hb, -⟩ := hl i (by omega)
  show (if p i then _ else _ : Nat → Nat) _ ≤ _
  split
  · rw [jnM_at ha hb hy]
    split
    · rename_i h
      rcases h with ⟨rfl, rfl⟩ | ⟨rfl, rfl⟩
      · rw [hs _ _ hx hy]
        exact Nat.min_le_right _ _
      · exact Nat.min_le_right _ _
    · exact Nat.le_refl _
  · exact Nat.le_refl _
theorem jnE_le {g : Nat → Nat} {p : Nat → Bool} {M : Nat → Nat} (hM : ∀ x y, x < 14 → y < 14 → M (14 * x + y) = M (14 * y + x)) {x y : Nat} (hx : x < 14) (hy : y < 14) {j : Nat} : ∀ {i : Nat}, j ≤ i → lok g i → jnE g p M i (14 * x + y) ≤ jnE g p M j (14 * x + y)
  | 0, h, _ => by rw [show j = 0 by omega]; exact Nat.le_refl _
  | i + 1, h, hl => by
    by_cases hj : j = i + 1
    · subst hj; exact Nat.le_refl _
    · exact Nat.le_trans (jnE_s hM hl hx hy) (jnE_le hM hx hy (by omega) (lok_le hl (Nat.le_succ i)))
theorem jnE_ln {g : Nat → Nat} {p : Nat → Bool} {M : Nat → Nat} (hM : ∀ x y, x < 14 → y < 14 → M (14 * x + y) = M (14 * y + x)) {n i : Nat} (hl : lok g n) (hi : i < n) (hp : p i = true) : jnE g p M n (14 * lnC g i 0 + lnC g i 1) ≤ lnC g i 2 ∧ jnE g p M n (14 * lnC g i 1 + lnC g i 0) ≤ lnC g i 2 := by
  obtain ⟨ha, hb, -⟩ := hl i hi
  have e : ∀ x y, x < 14 → y < 14 → ((x = lnC g i 1 ∧ y = lnC g i 0) ∨ (x = lnC g i 0 ∧ y = lnC g i 1)) → jnE g p M n (14 * x + y) ≤ lnC g i 2 := by
    intro x y hx hy hc
    refine Nat.le_trans (jnE_le hM hx hy (j := i + 1) (by omega) hl) ?_
    show (if p i then _ else _ : Nat → Nat) _ ≤ _
    rw [if_pos hp, jnM_at ha hb hy, if_pos hc]
    exact Nat.min_le_left _ _
  exact ⟨e _ _ ha hb (Or.inr ⟨rfl, rfl⟩), e _ _ hb ha (Or.inl ⟨rfl, rfl⟩)⟩
theorem jnE_low {g : Nat → Nat} {p : Nat → Bool} {M : Nat → Nat} {h : Nat → Nat → Nat} (hM : ∀ x y, x < 14 → y < 14 → h x y ≤ M (14 * x + y)) : ∀ {n : Nat}, lok g n → (∀ i, i < n → p i = true → h (lnC g i 0) (lnC g i 1) ≤ lnC g i 2 ∧ h (lnC g i 1) (lnC g i 0) ≤ lnC g i 2) → (∀ x y, x < 14 → y < 14 → h x y = h y x) → ∀ x y, x < 14 → y < 14 → h x y ≤ jnE g p M n (14 * x + y)
  | 0, _, _, _, x, y, hx, hy => hM x y hx hy
  | i + 1, hl, hc, hs, x, y, hx, hy => by
    have ih := jnE_low hM (p := p) (n := i) (lok_le hl (Nat.le_succ i)) (fun j hj => hc j (by omega)) hs
    obtain ⟨ha, hb, -⟩ := hl i (by omega)
    show _ ≤ (if p i then _ else _ : Nat → Nat) _
    split
    · rename_i hp
      have c := hc i (by omega) hp
      rw [jnM_at ha hb hy]
      split
      · rename_i hxy
        have i1 := ih _ _ ha hb
        rcases hxy with ⟨rfl, rfl⟩ | ⟨rfl, rfl⟩
        · rw [hs _ _ hx hy]
          exact Nat.le_min.mpr ⟨c.1, i1⟩
        · exact Nat.le_min.mpr ⟨c.1, i1⟩
      · exact ih x y hx hy
    · exact ih x y hx hy
theorem jnE_20 {g : Nat → Nat} {p : Nat → Bool} {M : Nat → Nat} (hM : ∀ k, M k < 1000000 → M k ≤ 20) : ∀ {n : Nat}, lok g n → ∀ k, jnE g p M n k < 1000000 → jnE g p M n k ≤ 20
  | 0, _, k, h => hM k h
  | i + 1, hl, k, h => by
    have ih := jnE_20 hM (p := p) (n := i) (lok_le hl (Nat.le_succ i))
    obtain ⟨ha, hb, -, -, h20⟩ := hl i (by omega)
    have e : jnE g p M (i + 1) = (if p i then jnM (jnE g p M i) (lnC g i 0) (lnC g i 1) (lnC g i 2) else jnE g p M i) := rfl
    rw [e] at h ⊢
    split at h
    · rename_i hp
      rw [if_pos hp]
      unfold jnM updN at h ⊢
      by_cases h1 : k = 14 * lnC g i 1 + lnC g i 0
      · rw [if_pos h1]; omega
      · rw [if_neg h1] at h ⊢
        by_cases h2 : k = 14 * lnC g i 0 + lnC g i 1
        · rw [if_pos h2]; omega
        · rw [if_neg h2] at h ⊢
          exact ih k h
    · rename_i hp
      rw [if_neg hp]
      exact ih k h
theorem jnE_1M {g : Nat → Nat} {p : Nat → Bool} {M : Nat → Nat} (hM : ∀ k, M k ≤ 1000000) : ∀ {n : Nat}, lok g n → ∀ k, jnE g p M n k ≤ 1000000
  | 0, _, k => hM k
  | i + 1, hl, k => by
    have ih := jnE_1M hM (p := p) (n := i) (lok_le hl (Nat.le_succ i))
    obtain ⟨ha, hb, -, -, h20⟩ := hl i (by omega)
    have e : jnE g p M (i + 1) = (if p i then jnM (jnE g p M i) (lnC g i 0) (lnC g i 1) (lnC g i 2) else jnE g p M i) := rfl
    rw [e]
    split
    · unfold jnM updN
      by_cases h1 : k = 14 * lnC g i 1 + lnC g i 0
      · rw [if_pos h1]; omega
      · rw [if_neg h1]
        by_cases h2 : k = 14 * lnC g i 0 + lnC g i 1
        · rw [if_pos h2]; omega
        · rw [if_neg h2]
          exact ih k
    · exact ih k
/-- the class's ways: the greatest under the lanes -/
theorem dF_MD {g : Nat → Nat} {p : Nat → Bool} {e : Nat → Nat → Nat} (h : MD e) : ∀ {i : Nat}, lok g i → MD (dstF g p e i)
  | 0, _ => h
  | i + 1, hl => by
    have ih := dF_MD h (p := p) (lok_le hl (Nat.le_succ i))
    obtain ⟨ha, hb, -⟩ := hl i (by omega)
    unfold dstF
    split
    · exact jnN_MD ih ha hb
    · exact ih
theorem jnN_le0 {e : Nat → Nat → Nat} {a b l x y : Nat} : jnN e a b l x y ≤ e x y := by
  refine Nat.le_trans (jnN_c e a b l x y).1 ?_
  unfold dz
  split <;> omega
theorem dF_le {g : Nat → Nat} {p : Nat → Bool} {e : Nat → Nat → Nat} {x y j : Nat} : ∀ {i : Nat}, j ≤ i → dstF g p e i x y ≤ dstF g p e j x y
  | 0, h => by rw [show j = 0 by omega]; exact Nat.le_refl _
  | i + 1, h => by
    by_cases hj : j = i + 1
    · subst hj; exact Nat.le_refl _
    · refine Nat.le_trans ?_ (dF_le (i := i) (by omega))
      show (if p i then _ else _ : Nat → Nat → Nat) x y ≤ _
      split
      · exact jnN_le0
      · exact Nat.le_refl _
theorem dF_ln {g : Nat → Nat} {p : Nat → Bool} {e : Nat → Nat → Nat} {n i : Nat} (hi : i < n) (hp : p i = true) : dstF g p e n (lnC g i 0) (lnC g i 1) ≤ lnC g i 2 ∧ dstF g p e n (lnC g i 1) (lnC g i 0) ≤ lnC g i 2 ∧ dstF g p e n (lnC g i 0) (lnC g i 0) = 0 ∧ dstF g p e n (lnC g i 1) (lnC g i 1) = 0 := by
  have e1 : ∀ x y, dstF g p e n x y ≤ jnN (dstF g p e i) (lnC g i 0) (lnC g i 1) (lnC g i 2) x y := by
    intro x y
    have h1 := dF_le (g := g) (p := p) (e := e) (x := x) (y := y) (j := i + 1) (i := n) hi
    have h2 : dstF g p e (i + 1) x y = jnN (dstF g p e i) (lnC g i 0) (lnC g i 1) (lnC g i 2) x y := by
      show (if p i then _ else _ : Nat → Nat → Nat) x y = _
      rw [if_pos hp]
    omega
  obtain ⟨z1, z2⟩ := dz_00 (e := dstF g p e i) (a := lnC g i 0) (b := lnC g i 1)
  have c1 := jnN_c (dstF g p e i) (lnC g i 0) (lnC g i 1) (lnC g i 2) (lnC g i 0) (lnC g i 1)
  have c2 := jnN_c (dstF g p e i) (lnC g i 0) (lnC g i 1) (lnC g i 2) (lnC g i 1) (lnC g i 0)
  have c3 := jnN_c (dstF g p e i) (lnC g i 0) (lnC g i 1) (lnC g i 2) (lnC g i 0) (lnC g i 0)
  have c4 := jnN_c (dstF g p e i) (lnC g i 0) (lnC g i 1) (lnC g i 2) (lnC g i 1) (lnC g i 1)
  have f1 := e1 (lnC g i 0) (lnC g i 1)
  have f2 := e1 (lnC g i 1) (lnC g i 0)
  have f3 := e1 (lnC g i 0) (lnC g i 0)
  have f4 := e1 (lnC g i 1) (lnC g i 1)
  exact ⟨by omega, by omega, by omega, by omega⟩
theorem dF_low {g : Nat → Nat} {p : Nat → Bool} {e : Nat → Nat → Nat} {h : Nat → Nat → Nat} (ht : ∀ x y z, x < 14 → y < 14 → z < 14 → h x y ≤ h x z + h z y) (he : ∀ x y, x < 14 → y < 14 → h x y ≤ e x y) : ∀ {n : Nat}, lok g n → (∀ i, i < n → p i = true → h (lnC g i 0) (lnC g i 1) ≤ lnC g i 2 ∧ h (lnC g i 1) (lnC g i 0) ≤ lnC g i 2 ∧ h (lnC g i 0) (lnC g i 0) = 0 ∧ h (lnC g i 1) (lnC g i 1) = 0) → ∀ x y, x < 14 → y < 14 → h x y ≤ dstF g p e n x y
  | 0, _, _, x, y, hx, hy => he x y hx hy
  | i + 1, hl, hc, x, y, hx, hy => by
    have ih := dF_low ht he (p := p) (n := i) (lok_le hl (Nat.le_succ i)) (fun j hj => hc j (by omega))
    obtain ⟨ha, hb, -⟩ := hl i (by omega)
    show h x y ≤ (if p i then _ else _ : Nat → Nat → Nat) x y
    split
    · rename_i hp
      obtain ⟨c1, c2, c3, c4⟩ := hc i (by omega) hp
      have hd : ∀ x y, x < 14 → y < 14 → h x y ≤ dz (dstF g p e i) (lnC g i 0) (lnC g i 1) x y := by
        intro x y hx hy
        unfold dz
        split
        · rename_i h9
          obtain ⟨rfl, h9⟩ := h9
          rcases h9 with rfl | rfl <;> omega
        · exact ih x y hx hy
      have d1 := hd x y hx hy
      have d2 := hd x _ hx ha
      have d3 := hd _ y hb hy
      have d4 := hd x _ hx hb
      have d5 := hd _ y ha hy
      have t1 := ht x y _ hx hy ha
      have t2 := ht _ y _ ha hy hb
      have t3 := ht x y _ hx hy hb
      have t4 := ht _ y _ hb hy ha
      obtain ⟨-, -, -, q⟩ := jnN_c (dstF g p e i) (lnC g i 0) (lnC g i 1) (lnC g i 2) x y
      rcases q with q | q | q <;> omega
    · exact ih x y hx hy
theorem pL_t {g : Nat → Nat} {d i : Nat} : pL g d i = true ↔ told g i = true ∧ (d = 4 ∨ lnC g i 3 = d) := by
  unfold pL
  simp
theorem inn_ln {g : Nat → Nat} {d i : Nat} (hi : i < kL g) (hd : d ≠ 4) (h : pL g d i = true) : inn g d (lnC g i 0) = true ∧ inn g d (lnC g i 1) = true := by
  obtain ⟨h1, h2⟩ := pL_t.mp h
  have h3 : lnC g i 3 = d := h2.resolve_left hd
  exact ⟨anyB_iff.mpr ⟨i, hi, by simp [h1, h3]⟩, anyB_iff.mpr ⟨i, hi, by simp [h1, h3]⟩⟩
theorem inn_x {g : Nat → Nat} {d x : Nat} (h : inn g d x = true) : ∃ i, i < kL g ∧ pL g d i = true ∧ (lnC g i 0 = x ∨ lnC g i 1 = x) := by
  obtain ⟨i, hi, h⟩ := anyB_iff.mp h
  refine ⟨i, hi, ?_⟩
  simp at h
  exact ⟨pL_t.mpr ⟨h.1, Or.inr h.2.1⟩, h.2.2⟩
theorem in0_sym {g : Nat → Nat} {d x y : Nat} (hx : x < 14) (hy : y < 14) : in0 g d (14 * x + y) = in0 g d (14 * y + x) := by
  unfold in0
  rw [(fx hy).1, (fx hy).2, (fx hx).1, (fx hx).2]
  by_cases h : x = y
  · subst h; rfl
  · rw [if_neg (fun q => h q.1), if_neg (fun q => h q.1.symm)]
theorem in0_le {g : Nat → Nat} {d k : Nat} : in0 g d k ≤ 1000000 := by
  unfold in0
  split <;> omega
theorem in0_20 {g : Nat → Nat} {d : Nat} (k : Nat) (h : in0 g d k < 1000000) : in0 g d k ≤ 20 := by
  unfold in0 at h ⊢
  split at h
  · rename_i h9; rw [if_pos h9]; omega
  · omega
def fwD (g : Nat → Nat) (d : Nat) : Nat → Nat := fwN (jnE g (pL g d) (in0 g d) (kL g)) 14
/-- the two are one -/
theorem fw_dst {g : Nat → Nat} (hl : lok g (kL g)) {d x y : Nat} (hd : d < 5) (hx : x < 14) (hy : y < 14) : fwD g d (14 * x + y) = dst g d x y := by
  have hs : ∀ x y, x < 14 → y < 14 → in0 g d (14 * x + y) = in0 g d (14 * y + x) := fun x y hx hy => in0_sym hx hy
  have hMD : MD (dst g d) := dF_MD (clV_MD d) hl
  have h0 : ∀ x y, x < 14 → y < 14 → dst g d x y ≤ in0 g d (14 * x + y) := by
    intro x y hx hy
    unfold in0
    rw [(fx hy).1, (fx hy).2]
    split
    · rename_i h
      obtain ⟨rfl, h⟩ := h
      rcases h with h | h
      · have := dF_le (g := g) (p := pL g d) (e := clV d) (x := x) (y := x) (j := 0) (i := kL g) (Nat.zero_le _)
        have e : dstF g (pL g d) (clV d) 0 x x = 0 := if_pos ⟨h, rfl⟩
        show dstF g (pL g d) (clV d) (kL g) x x ≤ 0
        omega
      · obtain ⟨i, hi, hp, he⟩ := inn_x h
        obtain ⟨-, -, z1, z2⟩ := dF_ln (g := g) (e := clV d) hi hp
        show dstF g (pL g d) (clV d) (kL g) x x ≤ 0
        rcases he with rfl | rfl <;> omega
    · exact (hMD x y x hx hy hx).1
  have hE : ∀ x y, x < 14 → y < 14 → dst g d x y ≤ jnE g (pL g d) (in0 g d) (kL g) (14 * x + y) :=
    jnE_low h0 hl (fun i hi hp => ⟨(dF_ln hi hp).1, (dF_ln hi hp).2.1⟩) (fun x y hx hy => (hMD x y x hx hy hx).2.1)
  refine Nat.le_antisymm ?_ (fw_low (fun x y z hx hy hz => (hMD x y z hx hy hz).2.2) hE 14 (Nat.le_refl _) x y hx hy)
  have hle : ∀ x y, x < 14 → y < 14 → fwD g d (14 * x + y) ≤ in0 g d (14 * x + y) := fun x y hx hy => Nat.le_trans (fwN_le 14) (jnE_le hs hx hy (j := 0) (Nat.zero_le _) hl)
  have hz : ∀ x, x < 14 → (d = 4 ∨ inn g d x = true) → fwD g d (14 * x + x) = 0 := by
    intro x hx h
    have := hle x x hx hx
    have e : in0 g d (14 * x + x) = 0 := by
      unfold in0
      rw [(fx hx).1, (fx hx).2, if_pos ⟨rfl, h⟩]
    omega
  refine dF_low (h := fun x y => fwD g d (14 * x + y)) (e := clV d) (fun x y z hx hy hz => fw_tri 14 (Nat.le_refl _) x y z hx hy hz) (fun x y hx hy => ?_) hl (fun i hi hp => ?_) x y hx hy
  · show _ ≤ clV d x y
    unfold clV
    split
    · rename_i h
      obtain ⟨h4, rfl⟩ := h
      exact Nat.le_of_eq (hz x hx (Or.inl h4))
    · exact Nat.le_trans (hle x y hx hy) in0_le
  · obtain ⟨ha, hb, -⟩ := hl i hi
    obtain ⟨l1, l2⟩ := jnE_ln (p := pL g d) hs hl hi hp
    have hin : (d = 4 ∨ inn g d (lnC g i 0) = true) ∧ (d = 4 ∨ inn g d (lnC g i 1) = true) := by
      by_cases h4 : d = 4
      · exact ⟨Or.inl h4, Or.inl h4⟩
      · exact ⟨Or.inr (inn_ln hi h4 hp).1, Or.inr (inn_ln hi h4 hp).2⟩
    exact ⟨Nat.le_trans (fwN_le 14) l1, Nat.le_trans (fwN_le 14) l2, hz _ ha hin.1, hz _ hb hin.2⟩
theorem dst_MD {g : Nat → Nat} (hl : lok g (kL g)) (d : Nat) : MD (dst g d) := dF_MD (clV_MD d) hl
theorem dst_big {g : Nat → Nat} (hl : lok g (kL g)) {d x y : Nat} (hd : d < 5) (hx : x < 14) (hy : y < 14) (h : dst g d x y < 1000000) : dst g d x y ≤ 327680 := by
  rw [← fw_dst hl hd hx hy] at h ⊢
  exact fw_big (jnE_20 (fun k => in0_20 k) hl) 14 _ h
theorem jnE_out {g : Nat → Nat} {d x : Nat} (hd : d ≠ 4) (hx : x < 14) (h : inn g d x = false) : ∀ {n : Nat}, n ≤ kL g → lok g n → ∀ y, y < 14 → 1000000 ≤ jnE g (pL g d) (in0 g d) n (14 * x + y)
  | 0, _, _, y, hy => by
    show 1000000 ≤ in0 g d (14 * x + y)
    unfold in0
    rw [(fx hy).1, (fx hy).2, if_neg (by rw [h]; simp [hd])]
    exact Nat.le_refl _
  | i + 1, hn, hl, y, hy => by
    have ih := jnE_out hd hx h (n := i) (by omega) (lok_le hl (Nat.le_succ i)) y hy
    obtain ⟨ha, hb, -⟩ := hl i (by omega)
    show 1000000 ≤ (if pL g d i then _ else _ : Nat → Nat) _
    split
    · rename_i hp
      obtain ⟨i1, i2⟩ := inn_ln (by omega) hd hp
      rw [jnM_at ha hb hy, if_neg]
      · exact ih
      · rintro (⟨rfl, -⟩ | ⟨rfl, -⟩)
        · rw [h] at i2; cases i2
        · rw [h] at i1; cases i1
    · exact ih
theorem dst_out {g : Nat → Nat} (hl : lok g (kL g)) {d x y : Nat} (hd : d < 4) (hx : x < 14) (hy : y < 14) (h : inn g d x = false) : dst g d x y = 1000000 ∧ dst g d y x = 1000000 := by
  have h1 : 1000000 ≤ dst g d x y := by
    rw [← fw_dst hl (by omega) hx hy]
    exact fw_row (jnE_out (by omega) hx h (Nat.le_refl _) hl) 14 (Nat.le_refl _) y hy
  have h2 := dst_MD hl d x y x hx hy hx
  omega
theorem dst_in {g : Nat → Nat} {d x : Nat} (h : inn g d x = true) : dst g d x x = 0 := by
  obtain ⟨i, hi, hp, he⟩ := inn_x h
  obtain ⟨-, -, z1, z2⟩ := dF_ln (g := g) (e := clV d) hi hp
  rcases he with rfl | rfl
  · exact z1
  · exact z2
theorem inn_d {g : Nat → Nat} (hl : lok g (kL g)) {d x : Nat} (hd : d < 4) (hx : x < 14) : inn g d x = (dst g d x x == 0) := by
  cases h : inn g d x with
  | true => rw [dst_in h]; rfl
  | false => rw [(dst_out hl hd hx hx h).1]; rfl
theorem Vg_l {g : Nat → Nat} (hv : Vg g) : lok g (kL g) := fun i hi => by
  obtain ⟨a, b, c, d, e, -⟩ := hv.2.2.2.1 i hi
  exact ⟨a, b, c, d, e⟩
/-- the class's own words for the same -/
theorem dsV_c {D D' : Nat → Nat → Nat → Nat} (h : ∀ d, d < 4 → D d = D' d) : dsV D = dsV D' := funext fun x => bitS_congr fun d hd => by rw [h d (by omega)]
theorem gaV_c {D D' : Nat → Nat → Nat → Nat} (h : ∀ d, d < 4 → D d = D' d) : gaV D = gaV D' := by
  funext d
  unfold gaV gaI
  split
  · rename_i hd
    exact bitS_congr fun x _ => by rw [h 0 (by omega), h d (by omega)]
  · rfl
theorem lOB_c {D D' : Nat → Nat → Nat → Nat} (h : ∀ d, d < 4 → D d = D' d) {ga : Nat → Nat} {x d e : Nat} (hd : d < 4) : lOB D ga x d e = lOB D' ga x d e := by
  unfold lOB
  rw [h 0 (by omega), h d (by omega)]
theorem npS_c {D D' : Nat → Nat → Nat → Nat} (h : ∀ d, d < 4 → D d = D' d) {di ga : Nat → Nat} {c l d : Nat} (hd : d < 4) : npS D di ga c l d = npS D' di ga c l d := by
  funext x
  unfold npS
  rw [lOB_c h hd, h d (by omega)]
theorem npR_c {D D' : Nat → Nat → Nat → Nat} (h : ∀ d, d < 4 → D d = D' d) {di ga : Nat → Nat} {c l d : Nat} (hd : d < 4) : npR D di ga c l d = npR D' di ga c l d := by
  funext x
  unfold npR
  rw [lOB_c h hd, h d (by omega)]
theorem lBN_c {D D' : Nat → Nat → Nat → Nat} (h : ∀ d, d < 4 → D d = D' d) {di ga N : Nat → Nat} {x : Nat} : ∀ {d : Nat}, d ≤ 3 → lBN D di ga N x d = lBN D' di ga N x d
  | 0, _ => rfl
  | d + 1, hd => by
    unfold lBN
    rw [lBN_c h (by omega), h (d + 1) (by omega)]
theorem tSg_c {g : Nat → Nat} {D D' : Nat → Nat → Nat → Nat} (h : ∀ d, d < 4 → D d = D' d) {al : Nat} (hd : alC g al 2 < 4) : tSg g D al = tSg g D' al ∧ tRg g D al = tRg g D' al := by
  constructor
  · funext x
    unfold tSg tS fpS
    rw [dsV_c h, gaV_c h, npS_c h hd, npR_c h hd, lBN_c h (Nat.le_refl _)]
  · funext x
    unfold tRg tR fpR
    rw [dsV_c h, gaV_c h, npS_c h hd, npR_c h hd, lBN_c h (Nat.le_refl _)]
theorem dstD_d {g : Nat → Nat} {D : Nat → Nat → Nat → Nat} {d : Nat} (h : d < 5) : dstD g D d = dst g d := if_pos h
def WOK (g : Nat → Nat) (W : TC) : Prop := (∀ d, d < 5 → W.1 d = dst g d) ∧ W.2.1 = dsV (dst g) ∧ W.2.2.1 = gaV (dst g) ∧ (∀ x al, x < 14 → al < kA g → W.2.2.2.1 (x * 12 + al) = tSg g (dst g) al x ∧ W.2.2.2.2.1 (x * 12 + al) = tRg g (dst g) al x) ∧ W.2.2.2.2.2 = kA g
theorem WOK_of {g : Nat → Nat} (hv : Vg g) (W : TC) : WOK g (wT g W) := by
  have hD : ∀ d, d < 5 → dstD g W.1 d = dst g d := fun d hd => dstD_d hd
  have hD4 : ∀ d, d < 4 → dstD g W.1 d = dst g d := fun d hd => dstD_d (by omega)
  refine ⟨hD, dsV_c hD4, gaV_c hD4, fun x al hx ha => ?_, rfl⟩
  have h12 := hv.2.1
  have a2 : alC g al 2 < 4 := (hv.2.2.2.2 al ha).2.2
  obtain ⟨c1, c2⟩ := tSg_c (g := g) hD4 (al := al) a2
  constructor
  · show suI W.2.2.2.1 (tSg g (dstD g W.1)) (kA g) (x * 12 + al) = _
    unfold suI
    rw [show (x * 12 + al) % 12 = al by omega, show (x * 12 + al) / 12 = x by omega, if_pos ha, c1]
  · show suI W.2.2.2.2.1 (tRg g (dstD g W.1)) (kA g) (x * 12 + al) = _
    unfold suI
    rw [show (x * 12 + al) % 12 = al by omega, show (x * 12 + al) / 12 = x by omega, if_pos ha, c2]
