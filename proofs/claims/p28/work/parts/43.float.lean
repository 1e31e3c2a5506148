/-! THE QUOTIENT OF TWO WHOLE NUMBERS IS A NUMBER -/
section FQ
def fOk : FP.Core.Datum → Prop
  | .nan => False
  | .inf _ => True
  | .fin _ c q => c < 16777216 ∧ -149 ≤ q ∧ q ≤ 104
theorem b32_t : FP.Core.Fmt.tails FP.Core.b32 = 8388608 := rfl
theorem b32_e : FP.Core.Fmt.exps FP.Core.b32 = 256 := rfl
theorem b32_q : FP.Core.Fmt.qmin FP.Core.b32 = -149 := rfl
theorem b32_m : FP.Core.Fmt.qmax FP.Core.b32 = 104 := rfl
theorem b32_p : (2 : Nat) ^ FP.Core.b32.p = 16777216 := rfl
theorem bound_ok {s : Bool} {c : Nat} {q : Int} (h : c < 16777216) (h2 : -149 ≤ q) : fOk (FP.Core.bound FP.Core.b32 s c q) := by
  unfold FP.Core.bound
  rw [b32_m]
  split
  · exact ⟨h, h2, by assumption⟩
  · exact True.intro
theorem settle_ok {s : Bool} {c : Nat} {q : Int} (h2 : -149 ≤ q) : fOk (FP.Core.settle FP.Core.b32 s c q) := by
  unfold FP.Core.settle
  rw [b32_p]
  split
  · exact bound_ok (by assumption) h2
  · exact bound_ok (by rw [b32_t]; decide) (by omega)
theorem ratio_ok (s : Bool) (num den : Nat) (e : Int) : fOk (FP.Core.roundRatio FP.Core.b32 s num den e) := by
  unfold FP.Core.roundRatio
  split
  · exact ⟨by decide, by rw [b32_q]; decide, by rw [b32_q]; decide⟩
  · refine settle_ok ?_
    unfold FP.Core.quantum
    rw [b32_q]
    omega
theorem enc_fin {s : Bool} {c : Nat} {q : Int} : FP.Core.encode FP.Core.b32 (.fin s c q) = if c < 8388608 then (s.toNat * 256 + 0) * 8388608 + c else (s.toNat * 256 + ((q - -149).toNat + 1)) * 8388608 + (c - 8388608) := rfl
theorem asm_eq {s : Bool} {e t : Nat} : FP.Core.assemble FP.Core.b32 s e t = (s.toNat * 256 + e) * 8388608 + t := rfl
theorem enc_ok {d : FP.Core.Datum} (h : fOk d) : FP.Core.encode FP.Core.b32 d % 2147483648 ≤ 2139095040 ∧ FP.Core.encode FP.Core.b32 d < 4294967296 := by
  cases d with
  | nan => exact absurd h id
  | inf s => cases s <;> decide
  | fin s c q =>
    obtain ⟨h1, h2, h3⟩ := h
    rw [enc_fin]
    split
    · cases s <;> simp <;> omega
    · have : ((q - -149).toNat : Int) = q - -149 := Int.toNat_of_nonneg (by omega)
      cases s <;> simp <;> omega
theorem n32_of {n : Nat} (h : n % 2147483648 ≤ 2139095040) (h2 : n < 4294967296) : vf_n32 (UInt32.ofNat n) := by
  unfold vf_n32
  rw [UInt32.le_iff_toNat_le, UInt32.toNat_and]
  rw [UInt32.toNat_ofNat_of_lt' (by simpa using h2)]
  rw [show (0x7fffffff : UInt32).toNat = 2 ^ 31 - 1 from rfl, Nat.and_two_pow_sub_one_eq_mod]
  exact h
/-- what an encoding of a number is read as -/
theorem dec_enc {s : Bool} {c : Nat} {q : Int} (h1 : c < 16777216) (h2 : -149 ≤ q) (h3 : q ≤ 104) : ∃ (s' : Bool) (c' : Nat) (q' : Int), FP.Core.decode FP.Core.b32 (FP.Core.encode FP.Core.b32 (.fin s c q)) = .fin s' c' q' ∧ (c ≠ 0 → c' ≠ 0) := by
  have hT : ∀ (b : Bool) (e t : Nat), e < 255 → t < 8388608 → FP.Core.fieldE FP.Core.b32 (FP.Core.assemble FP.Core.b32 b e t) = e ∧ FP.Core.fieldT FP.Core.b32 (FP.Core.assemble FP.Core.b32 b e t) = t := by
    intro b e t he ht
    unfold FP.Core.fieldE FP.Core.fieldT
    rw [asm_eq, b32_t, b32_e]
    cases b <;> simp <;> omega
  rw [enc_fin, ← asm_eq, ← asm_eq]
  split
  · rename_i hc
    obtain ⟨a, b⟩ := hT s 0 c (by decide) hc
    refine ⟨FP.Core.fieldS FP.Core.b32 (FP.Core.assemble FP.Core.b32 s 0 c), c, FP.Core.b32.qmin, ?_, id⟩
    unfold FP.Core.decode
    rw [a, b, b32_e, if_neg (by decide), if_pos rfl]
  · rename_i hc
    have hq : ((q - -149).toNat : Int) = q - -149 := Int.toNat_of_nonneg (by omega)
    obtain ⟨a, b⟩ := hT s ((q - -149).toNat + 1) (c - 8388608) (by omega) (by omega)
    refine ⟨FP.Core.fieldS FP.Core.b32 (FP.Core.assemble FP.Core.b32 s ((q - -149).toNat + 1) (c - 8388608)), 8388608 + (c - 8388608), FP.Core.b32.qmin + ((((q - -149).toNat + 1 : Nat) : Int) - 1), ?_, fun _ => by omega⟩
    unfold FP.Core.decode
    rw [a, b, b32_e, b32_t, if_neg (by omega), if_neg (by omega)]
theorem dec_ok {d : FP.Core.Datum} (h : fOk d) : FP.Core.decode FP.Core.b32 (FP.Core.encode FP.Core.b32 d) ≠ .nan := by
  cases d with
  | nan => exact absurd h id
  | inf s => cases s <;> decide
  | fin s c q =>
    obtain ⟨s', c', q', e, _⟩ := dec_enc (s := s) h.1 h.2.1 h.2.2
    rw [e]
    intro h
    cases h
theorem i2f_enc {n : Nat} (hn : n < 16777216) : (FP.Core.i2f (nI n)).toNat = FP.Core.encode FP.Core.b32 (FP.Core.roundRatio FP.Core.b32 false n 1 0) := by
  have h : (nI n).toInt = (n : Int) := nI_toInt (by omega)
  unfold FP.Core.i2f FP.Core.fromInt
  rw [h]
  have h0 : FP.Core.ofInt (n : Int) = .fin false n 0 := by
    unfold FP.Core.ofInt
    rw [show decide ((n : Int) < 0) = false from decide_eq_false (by omega)]
    rfl
  rw [h0]
  exact UInt32.toNat_ofNat_of_lt' (show FP.Core.encode FP.Core.b32 (FP.Core.roundRatio FP.Core.b32 false n 1 0) < UInt32.size from (enc_ok (ratio_ok false n 1 0)).2)
theorem i2f_pos {n : Nat} (hn : n < 16777216) (h0 : n ≠ 0) : ∃ (s' : Bool) (c' : Nat) (q' : Int), FP.Core.decode FP.Core.b32 (FP.Core.i2f (nI n)).toNat = .fin s' c' q' ∧ c' ≠ 0 := by
  rw [i2f_enc hn]
  have hlog : n.log2 < 24 := (Nat.log2_lt h0).mpr (by simpa using hn)
  have hl : FP.Core.leading n 1 ≤ 23 := by
    unfold FP.Core.leading
    have : (Nat.log2 1) = 0 := by decide
    rw [this]
    dsimp only
    split <;> omega
  have hq1 : FP.Core.quantum FP.Core.b32 n 1 0 ≤ 0 ∧ -149 ≤ FP.Core.quantum FP.Core.b32 n 1 0 := by
    unfold FP.Core.quantum
    rw [b32_q, show FP.Core.b32.p = 24 from rfl]
    omega
  unfold FP.Core.roundRatio
  rw [if_neg h0]
  unfold FP.Core.roundAt
  have hc : FP.Core.nearest (FP.Core.unitsNum n 0 (FP.Core.quantum FP.Core.b32 n 1 0)) (FP.Core.unitsDen 1 0 (FP.Core.quantum FP.Core.b32 n 1 0)) ≠ 0 := by
    generalize hqq : FP.Core.quantum FP.Core.b32 n 1 0 = q at *
    unfold FP.Core.unitsDen FP.Core.unitsNum
    rw [show (q - 0).toNat = 0 by omega]
    unfold FP.Core.nearest
    simp only [Nat.pow_zero, Nat.mul_one, Nat.mod_one, Nat.div_one]
    rw [if_pos (by decide)]
    exact Nat.mul_ne_zero h0 (Nat.ne_of_gt (Nat.two_pow_pos _))
  generalize FP.Core.nearest (FP.Core.unitsNum n 0 (FP.Core.quantum FP.Core.b32 n 1 0)) (FP.Core.unitsDen 1 0 (FP.Core.quantum FP.Core.b32 n 1 0)) = c at hc
  generalize FP.Core.quantum FP.Core.b32 n 1 0 = q at hq1
  unfold FP.Core.settle FP.Core.bound
  rw [b32_p, b32_m]
  split
  · rw [if_pos (by omega)]
    obtain ⟨s', c', q', e, k⟩ := dec_enc (s := false) (c := c) (q := q) (by assumption) hq1.2 (by omega)
    exact ⟨s', c', q', e, k hc⟩
  · rw [if_pos (by omega), b32_t]
    obtain ⟨s', c', q', e, k⟩ := dec_enc (s := false) (c := 8388608) (q := q + 1) (by decide) (by omega) (by omega)
    exact ⟨s', c', q', e, k (by decide)⟩
theorem fq_ok {n k : Nat} (hn : n < 16777216) (hk : k < 16777216) (h0 : k ≠ 0) : vf_n32 (FP.Core.fdiv (FP.Core.i2f (nI n)) (FP.Core.i2f (nI k))) := by
  obtain ⟨s', c', q', e, hc⟩ := i2f_pos hk h0
  have hd : fOk (FP.Core.quotient FP.Core.b32 (FP.Core.decode FP.Core.b32 (FP.Core.i2f (nI n)).toNat) (FP.Core.decode FP.Core.b32 (FP.Core.i2f (nI k)).toNat)) := by
    rw [e]
    have hx : FP.Core.decode FP.Core.b32 (FP.Core.i2f (nI n)).toNat ≠ .nan := by rw [i2f_enc hn]; exact dec_ok (ratio_ok _ _ _ _)
    revert hx
    cases FP.Core.decode FP.Core.b32 (FP.Core.i2f (nI n)).toNat with
    | nan => intro hx; exact absurd rfl hx
    | inf s => intro _; exact True.intro
    | fin s c q =>
      intro _
      show fOk (if c' = 0 then (if c = 0 then FP.Core.Datum.nan else FP.Core.Datum.inf (s != s')) else FP.Core.roundRatio FP.Core.b32 (s != s') c c' (q - q'))
      rw [if_neg hc]
      exact ratio_ok _ _ _ _
  exact n32_of (enc_ok hd).1 (enc_ok hd).2
end FQ

