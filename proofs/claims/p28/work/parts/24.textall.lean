theorem t_upd {t : Nat → Nat} {n c : Nat} (h : c < 65536) : upd (fun k => nI (t k)) n (vp_nar .char (nI c)) = fun k => nI (updN t n c k) := by
  have h1 : vp_nar .char (nI c) = nI c := by
    unfold vp_nar
    rw [(pk_charN h).1]
  rw [h1]
  exact nF_upd (f := t)
theorem ff_st {t : Nat → Nat} {n j : Nat} {T : T7} (h : T.1.2 = true) : ffR t n (j + 1) T = some T.1.1 ∧ ffS t n (j + 1) T = T := ⟨if_pos h, if_pos h⟩
theorem ff_en {t : Nat → Nat} {n j : Nat} {T : T7} (h : T.1.2 = false) (h2 : (rdP t n T).1.2 = false) (h3 : ¬ (rdP t n T).1.1 < n) : ffR t n (j + 1) T = none ∧ ffS t n (j + 1) T = rdP t n T := by
  constructor
  · show (if T.1.2 = true then _ else if _ then _ else _) = _
    rw [if_neg (by rw [h]; decide), if_pos ⟨h2, h3⟩]
  · show (if T.1.2 = true then _ else if _ then _ else _) = _
    rw [if_neg (by rw [h]; decide), if_pos ⟨h2, h3⟩]
theorem ff_go {t : Nat → Nat} {n j : Nat} {T : T7} (h : T.1.2 = false) (h2 : ¬ ((rdP t n T).1.2 = false ∧ ¬ (rdP t n T).1.1 < n)) : ffR t n (j + 1) T = ffR t n j (rdP t n T) ∧ ffS t n (j + 1) T = ffS t n j (rdP t n T) := by
  constructor
  · show (if T.1.2 = true then _ else if _ then _ else _) = _
    rw [if_neg (by rw [h]; decide), if_neg h2]
  · show (if T.1.2 = true then _ else if _ then _ else _) = _
    rw [if_neg (by rw [h]; decide), if_neg h2]
theorem ffS_le {t : Nat → Nat} {n : Nat} (hn : n ≤ 60) : ∀ (j : Nat) (T : T7), T.1.1 ≤ 60 → (ffS t n j T).1.1 ≤ 60
  | 0, T, h => h
  | j + 1, T, h => by
    unfold ffS
    split
    · exact h
    · split
      · exact rdP_le h hn
      · exact ffS_le hn j _ (rdP_le h hn)

