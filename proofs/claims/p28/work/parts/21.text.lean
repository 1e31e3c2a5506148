/-! THE TEXT: its characters t, its length n; the reader stands at s.1, s.2: whether it is stuck -/
def sgI (t : Nat → Nat) (n i : Nat) : Int32 := if i < n then nI (t i) else -5
def dg (t : Nat → Nat) (n i : Nat) : Option Nat := if i < n ∧ 48 ≤ t i ∧ t i ≤ 57 then some (t i - 48) else none
def rdS (t : Nat → Nat) (n c : Nat) (s : Nat × Bool) : Nat × Bool := if s.2 = false ∧ s.1 < n ∧ t s.1 = c then (s.1 + 1, false) else (s.1, true)
def rdN (t : Nat → Nat) (n lo hi : Nat) (s : Nat × Bool) : Nat × (Nat × Bool) :=
  if s.2 = true then (0, (s.1, true)) else
  match dg t n s.1 with
  | none => (0, (s.1, true))
  | some d => if d < lo ∨ hi < d then (0, (s.1, true)) else
    match dg t n (s.1 + 1) with
    | none => (d, (s.1 + 1, false))
    | some e => if 0 < d ∧ d * 10 + e ≤ hi then (d * 10 + e, (s.1 + 1 + 1, false)) else (d, (s.1 + 1, false))
def rdAl (t : Nat → Nat) (n : Nat) (s : Nat × Bool) : (Nat × Nat × Nat) × (Nat × Bool) :=
  let r1 := rdN t n 0 13 (rdS t n 97 s)
  let r2 := rdN t n 0 20 (rdS t n 43 r1.2)
  let r3 := rdN t n 0 3 (rdS t n 58 r2.2)
  ((r1.1, r2.1, r3.1), r3.2)
def rdLn (t : Nat → Nat) (n : Nat) (s : Nat × Bool) : (Nat × Nat × Nat × Nat) × (Nat × Bool) :=
  let r1 := rdN t n 0 13 s
  let r2 := rdN t n 0 13 (rdS t n 45 r1.2)
  let r3 := rdN t n 1 20 (rdS t n 42 r2.2)
  let r4 := rdN t n 0 3 (rdS t n 58 r3.2)
  ((r1.1, r2.1, r3.1, r4.1), r4.2)
def sepS (t : Nat → Nat) (n : Nat) (s : Nat × Bool) : Nat × Bool := if s.2 = false ∧ s.1 < n then ((rdS t n 59 s).1, (rdS t n 59 s).2 || !(decide ((rdS t n 59 s).1 < n))) else s
def isA (t : Nat → Nat) (n : Nat) (s : Nat × Bool) : Bool := decide (s.1 < n ∧ t s.1 = 97)
/-- what a part leaves: the reader, whether it is a lane, its numbers -/
abbrev T7 : Type := (Nat × Bool) × (Bool × Nat × Nat × Nat × Nat)
def rdP (t : Nat → Nat) (n : Nat) (T : T7) : T7 := if isA t n T.1 then (sepS t n (rdAl t n T.1).2, (false, (rdAl t n T.1).1.1, T.2.2.2.1, (rdAl t n T.1).1.2.1, (rdAl t n T.1).1.2.2)) else (sepS t n (rdLn t n T.1).2, (true, (rdLn t n T.1).1.1, (rdLn t n T.1).1.2.1, (rdLn t n T.1).1.2.2.1, (rdLn t n T.1).1.2.2.2))
def ffS (t : Nat → Nat) (n : Nat) : Nat → T7 → T7
  | 0, T => T
  | k + 1, T => if T.1.2 = true then T else if (rdP t n T).1.2 = false ∧ ¬ (rdP t n T).1.1 < n then rdP t n T else ffS t n k (rdP t n T)
def ffR (t : Nat → Nat) (n : Nat) : Nat → T7 → Option Nat
  | 0, T => some T.1.1
  | k + 1, T => if T.1.2 = true then some T.1.1 else if (rdP t n T).1.2 = false ∧ ¬ (rdP t n T).1.1 < n then none else ffR t n k (rdP t n T)
def textB (G : GG) (a b : Nat) (t : Nat → Nat) (n : Nat) (T : T7) : List va_W := [[(a, .inr (3, [.ref b, .int (nI n), .int (nI T.1.1), .int (bI T.1.2), .int (bI T.2.1), .int (nI T.2.2.1), .int (nI T.2.2.2.1), .int (nI T.2.2.2.2.1), .int (nI T.2.2.2.2.2)]))], [(b, .inl (G.2 1, 60, .inl (fun k => nI (t k))))]]
def text (G : GG) (a b : Nat) (t : Nat → Nat) (n : Nat) (T : T7) : va_W := (textB G a b t n T).flatten
theorem rdS_le {t : Nat → Nat} {n c : Nat} {s : Nat × Bool} (h : s.1 ≤ 60) (hn : n ≤ 60) : (rdS t n c s).1 ≤ 60 := by
  unfold rdS
  split
  · show s.1 + 1 ≤ 60
    omega
  · exact h
theorem dg_lt {t : Nat → Nat} {n i d : Nat} (h : dg t n i = some d) : i < n ∧ d < 10 := by
  unfold dg at h
  split at h
  · cases h
    omega
  · cases h
theorem rdN_le {t : Nat → Nat} {n lo hi : Nat} {s : Nat × Bool} (h : s.1 ≤ 60) (hn : n ≤ 60) : (rdN t n lo hi s).2.1 ≤ 60 := by
  unfold rdN
  split
  · exact h
  · split
    · exact h
    · rename_i d hd
      have := dg_lt hd
      split
      · exact h
      · split
        · show s.1 + 1 ≤ 60
          omega
        · rename_i e he
          have := dg_lt he
          split
          · show s.1 + 1 + 1 ≤ 60
            omega
          · show s.1 + 1 ≤ 60
            omega
theorem rdN_v {t : Nat → Nat} {n lo hi : Nat} {s : Nat × Bool} (hlo : lo ≤ 1) : (rdN t n lo hi s).1 ≤ max hi 9 := by
  unfold rdN
  split
  · exact Nat.zero_le _
  · split
    · exact Nat.zero_le _
    · rename_i d hd
      have := dg_lt hd
      split
      · exact Nat.zero_le _
      · split
        · show d ≤ _
          omega
        · rename_i e he
          split
          · show d * 10 + e ≤ _
            omega
          · show d ≤ _
            omega
theorem sepS_le {t : Nat → Nat} {n : Nat} {s : Nat × Bool} (h : s.1 ≤ 60) (hn : n ≤ 60) : (sepS t n s).1 ≤ 60 := by
  unfold sepS
  split
  · exact rdS_le h hn
  · exact h
theorem rdAl_le {t : Nat → Nat} {n : Nat} {s : Nat × Bool} (h : s.1 ≤ 60) (hn : n ≤ 60) : (rdAl t n s).2.1 ≤ 60 := rdN_le (rdS_le (rdN_le (rdS_le (rdN_le (rdS_le h hn) hn) hn) hn) hn) hn
theorem rdLn_le {t : Nat → Nat} {n : Nat} {s : Nat × Bool} (h : s.1 ≤ 60) (hn : n ≤ 60) : (rdLn t n s).2.1 ≤ 60 := rdN_le (rdS_le (rdN_le (rdS_le (rdN_le (rdS_le (rdN_le h hn) hn) hn) hn) hn) hn) hn
theorem rdP_le {t : Nat → Nat} {n : Nat} {T : T7} (h : T.1.1 ≤ 60) (hn : n ≤ 60) : (rdP t n T).1.1 ≤ 60 := by
  unfold rdP
  split
  · exact sepS_le (rdAl_le h hn) hn
  · exact sepS_le (rdLn_le h hn) hn

