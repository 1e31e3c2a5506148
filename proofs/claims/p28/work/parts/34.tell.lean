theorem rdN_hi {t : Nat → Nat} {n lo hi : Nat} {s : Nat × Bool} : (rdN t n lo hi s).1 ≤ hi := by
  unfold rdN
  split
  · exact Nat.zero_le _
  · split
    · exact Nat.zero_le _
    · rename_i d hd
      split
      · exact Nat.zero_le _
      · rename_i h1
        split
        · show d ≤ hi
          omega
        · rename_i e he
          split
          · rename_i h2
            exact h2.2
          · show d ≤ hi
            omega
/-- the numbers of a part are in their ranges -/
def T7ok (T : T7) : Prop := T.2.2.1 < 14 ∧ (T.2.1 = true → T.2.2.2.1 < 14) ∧ T.2.2.2.2.1 ≤ 20 ∧ T.2.2.2.2.2 < 4
theorem rdP_ok {t : Nat → Nat} {n : Nat} {T : T7} : T7ok (rdP t n T) := by
  unfold rdP
  split
  · refine ⟨?_, fun h => (by cases h), ?_, ?_⟩
    · exact Nat.lt_succ_of_le (rdN_hi (hi := 13))
    · exact rdN_hi (hi := 20)
    · exact Nat.lt_succ_of_le (rdN_hi (hi := 3))
  · refine ⟨?_, fun _ => ?_, ?_, ?_⟩
    · exact Nat.lt_succ_of_le (rdN_hi (hi := 13))
    · exact Nat.lt_succ_of_le (rdN_hi (hi := 13))
    · exact rdN_hi (hi := 20)
    · exact Nat.lt_succ_of_le (rdN_hi (hi := 3))
def tpR (g : Nat → Nat) (T : T7) : Int32 := if T.2.1 then refL (kL g) (nI T.2.2.1) (nI T.2.2.2.1) (nI T.2.2.2.2.1) else refA (kA g) (nI T.2.2.2.2.1)
def tpP (g : Nat → Nat) (P : PC) (T : T7) : PC := if T.2.1 then (P.1, pAdd P.2.1 (kL g) (nI T.2.2.1) (nI T.2.2.2.1) (nI T.2.2.2.2.1) (nI T.2.2.2.2.2), nI (kL g + 1), P.2.2.2.1, P.2.2.2.2) else (P.1, P.2.1, P.2.2.1, pAddA P.2.2.2.1 (kA g) (nI T.2.2.1) (nI T.2.2.2.2.1) (nI T.2.2.2.2.2), nI (kA g + 1))
def tpG (g : Nat → Nat) (T : T7) : Nat → Nat := if T.2.1 then gAdd g T.2.2.1 T.2.2.2.1 T.2.2.2.2.1 T.2.2.2.2.2 else gAddA g T.2.2.1 T.2.2.2.2.1 T.2.2.2.2.2
theorem tp_ok {g : Nat → Nat} {P : PC} {T : T7} (hP : PR g P) (hv : Vg g) (hT : T7ok T) (h : tpR g T = 0) : PR (tpG g T) (tpP g P T) ∧ Vg (tpG g T) := by
  unfold tpR at h
  unfold tpG tpP
  cases hl : T.2.1 with
  | true =>
    rw [hl, if_pos rfl] at h
    obtain ⟨h1, h2, h3, h4⟩ := refL_0 h
    have hk : kL g < 24 := by have := hv.1; omega
    have h5 : 1 ≤ T.2.2.2.2.1 := by
      rcases Nat.eq_zero_or_pos T.2.2.2.2.1 with q | q
      · rw [q] at h1; exact absurd (by decide) h1
      · exact q
    exact ⟨PR_add hP hk, Vg_add hv hk hT.1 (hT.2.1 hl) (fun e => h3 (by rw [e])) h5 hT.2.2.1 hT.2.2.2⟩
  | false =>
    rw [hl] at h
    obtain ⟨h1, h2, h3⟩ := refA_0 h
    have hk : kA g < 12 := by have := hv.2.1; omega
    exact ⟨PR_addA hP hv, Vg_addA hv hk hT.1 hT.2.2.1 hT.2.2.2⟩
def taI (t : Nat → Nat) (n : Nat) : Nat → T7 → (Nat → Nat) → PC → Nat → (Option Int32) × Nat × T7 × (Nat → Nat) × PC
  | 0, T, g, P, k => (none, k, T, g, P)
  | j + 1, T, g, P, k => if T.1.1 < n then (if tpR g (rdP t n T) = 0 then taI t n j (rdP t n T) (tpG g (rdP t n T)) (tpP g P (rdP t n T)) (k + 1) else (some (tpR g (rdP t n T)), k, rdP t n T, g, P)) else (none, k, T, g, P)

