def taT (t : Nat → Nat) (tn : Nat) (T : T7) : T7 := ((0, false), (ffS t tn 60 ((0, false), T.2)).2)
def taF (g : Nat → Nat) (t : Nat → Nat) (tn : Nat) (T : T7) (P : PC) : (Option Int32) × Nat × T7 × (Nat → Nat) × PC := taI t tn 60 (taT t tn T) g P 0
/-- how tellAll ends: a fault, a refusal, or so many parts -/
def taA (g : Nat → Nat) (t : Nat → Nat) (tn : Nat) (T : T7) (P : PC) : Int32 := match ffR t tn 60 ((0, false), T.2) with
  | some p => -100 - nI p
  | none => match (taF g t tn T P).1 with
    | some r => r
    | none => nI (taF g t tn T P).2.1
theorem taI_n {t : Nat → Nat} {n j k : Nat} {T : T7} {g : Nat → Nat} {P : PC} (h : ¬ T.1.1 < n) : taI t n (j + 1) T g P k = (none, k, T, g, P) := if_neg h
theorem taI_g {t : Nat → Nat} {n j k : Nat} {T : T7} {g : Nat → Nat} {P : PC} (h : T.1.1 < n) (h2 : tpR g (rdP t n T) = 0) : taI t n (j + 1) T g P k = taI t n j (rdP t n T) (tpG g (rdP t n T)) (tpP g P (rdP t n T)) (k + 1) := by
  show (if T.1.1 < n then _ else _) = _
  rw [if_pos h, if_pos h2]
theorem taI_r {t : Nat → Nat} {n j k : Nat} {T : T7} {g : Nat → Nat} {P : PC} (h : T.1.1 < n) (h2 : ¬ tpR g (rdP t n T) = 0) : taI t n (j + 1) T g P k = (some (tpR g (rdP t n T)), k, rdP t n T, g, P) := by
  show (if T.1.1 < n then _ else _) = _
  rw [if_pos h, if_neg h2]
theorem ffR_lt {t : Nat → Nat} {n : Nat} (hn : n ≤ 60) : ∀ (j : Nat) (T : T7), T.1.1 ≤ 60 → ∀ i, ffR t n j T = some i → i ≤ 60
  | 0, T, h, i, e => by cases e; exact h
  | j + 1, T, h, i, e => by
    unfold ffR at e
    split at e
    · cases e; exact h
    · split at e
      · cases e
      · exact ffR_lt hn j _ (rdP_le h hn) i e

