/-- the best of the joins tried so far -/
def bgJ (g : Nat → Nat) (W : TC) (d x : Nat) (r : Nat × Option (Nat × Nat)) : Nat → Nat × Option (Nat × Nat)
  | 0 => r
  | j + 1 => if cjB g W x j d then (if (bgJ g W d x r j).1 < cF (kA g) 3 W.2.2.2.1 (tSg g (jD W.1 d x j 1)) then (cF (kA g) 3 W.2.2.2.1 (tSg g (jD W.1 d x j 1)), some (x, j)) else bgJ g W d x r j) else bgJ g W d x r j
def bgI (g : Nat → Nat) (W : TC) (d : Nat) : Nat → Nat × Option (Nat × Nat)
  | 0 => (0, none)
  | i + 1 => bgJ g W d i (bgI g W d i) 14
theorem bgJ_f {g : Nat → Nat} {W : TC} {d x j : Nat} {r : Nat × Option (Nat × Nat)} (h : cjB g W x j d = false) : bgJ g W d x r (j + 1) = bgJ g W d x r j := by
  show (if cjB g W x j d then _ else _) = _
  rw [h]; rfl
theorem bgJ_t {g : Nat → Nat} {W : TC} {d x j : Nat} {r : Nat × Option (Nat × Nat)} (h : cjB g W x j d = true) (h2 : (bgJ g W d x r j).1 < cF (kA g) 3 W.2.2.2.1 (tSg g (jD W.1 d x j 1))) : bgJ g W d x r (j + 1) = (cF (kA g) 3 W.2.2.2.1 (tSg g (jD W.1 d x j 1)), some (x, j)) := by
  show (if cjB g W x j d then _ else _) = _
  rw [if_pos h, if_pos h2]
theorem bgJ_n {g : Nat → Nat} {W : TC} {d x j : Nat} {r : Nat × Option (Nat × Nat)} (h2 : ¬ (bgJ g W d x r j).1 < cF (kA g) 3 W.2.2.2.1 (tSg g (jD W.1 d x j 1))) : bgJ g W d x r (j + 1) = bgJ g W d x r j := by
  show (if cjB g W x j d then _ else _) = _
  rw [if_neg h2]
  split <;> rfl
theorem bgJ_le {g : Nat → Nat} (hk : kA g ≤ 12) {W : TC} {d x : Nat} {r : Nat × Option (Nat × Nat)} (hr : r.1 ≤ 168) : ∀ j, (bgJ g W d x r j).1 ≤ 168
  | 0 => hr
  | j + 1 => by
    have ih := bgJ_le hk (W := W) (d := d) (x := x) hr j
    unfold bgJ
    split
    · split
      · exact cF_le hk
      · exact ih
    · exact ih
theorem bgI_le {g : Nat → Nat} (hk : kA g ≤ 12) {W : TC} {d : Nat} : ∀ i, (bgI g W d i).1 ≤ 168
  | 0 => Nat.zero_le _
  | i + 1 => bgJ_le hk (bgI_le hk i) 14
def aBG (g : Nat → Nat) (W : TC) (d w : Int32) : Int32 := if isDi d && !(decide (d = 0)) then (if w < 0 ∨ 2 < w then -2 else if (bgI g W d.toNatClampNeg 14).1 = 0 then -5 else if w = 0 then optI ((bgI g W d.toNatClampNeg 14).2.map Prod.fst) else if w = 1 then optI ((bgI g W d.toNatClampNeg 14).2.map Prod.snd) else nI (bgI g W d.toNatClampNeg 14).1) else -1

