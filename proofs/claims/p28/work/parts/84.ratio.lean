/-! A QUOTIENT OF WHOLE NUMBERS, THE GREATER ONE ABOVE, IS NOT BELOW 1 -/
section FQ1
/-- the bits of a number from 1.0 on -/
def fGe (n : Nat) : Prop := 1065353216 ≤ n ∧ n ≤ 2139095040
theorem fGe_lt {n : Nat} (h : fGe n) : n < 4294967296 := by have := h.2; omega
theorem log2_23 {c : Nat} (h1 : 8388608 ≤ c) (h2 : c < 16777216) : c.log2 = 23 := by
  have h0 : c ≠ 0 := by omega
  have a : c.log2 < 24 := (Nat.log2_lt h0).mpr (by simpa using h2)
  have b : ¬ c.log2 < 23 := fun q => by
    have := (Nat.log2_lt h0).mp q
    have : c < 8388608 := by simpa using this
    omega
  omega
theorem near_ge {n d : Nat} : n / d ≤ FP.Core.nearest n d := by
  unfold FP.Core.nearest
  split
  · exact Nat.le_refl _
  · split <;> omega
theorem settle_ge {c : Nat} {q : Int} (hc : 8388608 ≤ c) (hq : -23 ≤ q) : fGe (FP.Core.encode FP.Core.b32 (FP.Core.settle FP.Core.b32 false c q)) := by
  have enc : ∀ (c : Nat) (q : Int), 8388608 ≤ c → c < 16777216 → -23 ≤ q → fGe (FP.Core.encode FP.Core.b32 (FP.Core.bound FP.Core.b32 false c q)) := by
    intro c q h1 h2 h3
    unfold FP.Core.bound
    rw [b32_m]
    split
    · rw [enc_fin, if_neg (by omega)]
      have : ((q - -149).toNat : Int) = q - -149 := Int.toNat_of_nonneg (by omega)
      unfold fGe
      simp
      omega
    · exact ⟨by decide, by decide⟩
  unfold FP.Core.settle
  rw [b32_p]
  split
  · exact enc c q hc (by assumption) hq
  · rw [b32_t]
    exact enc 8388608 (q + 1) (by decide) (by decide) (by omega)
theorem ratio_ge {c d : Nat} {e : Int} (c1 : 8388608 ≤ c) (c2 : c < 16777216) (d1 : 8388608 ≤ d) (d2 : d < 16777216) (he : 0 ≤ e) (h0 : e = 0 → d ≤ c) : fGe (FP.Core.encode FP.Core.b32 (FP.Core.roundRatio FP.Core.b32 false c d e)) := by
  have hl : (FP.Core.leading c d = 0 ∧ d ≤ c) ∨ (FP.Core.leading c d = -1 ∧ c < d) := by
    unfold FP.Core.leading
    rw [log2_23 c1 c2, log2_23 d1 d2]
    show ((if d * 2 ^ ((23 : Nat) - (23 : Nat) : Int).toNat ≤ c * 2 ^ (-((23 : Nat) - (23 : Nat) : Int)).toNat then ((23 : Nat) - (23 : Nat) : Int) else ((23 : Nat) - (23 : Nat) : Int) - 1) = 0 ∧ d ≤ c) ∨ ((if d * 2 ^ ((23 : Nat) - (23 : Nat) : Int).toNat ≤ c * 2 ^ (-((23 : Nat) - (23 : Nat) : Int)).toNat then ((23 : Nat) - (23 : Nat) : Int) else ((23 : Nat) - (23 : Nat) : Int) - 1) = -1 ∧ c < d)
    rw [show ((23 : Nat) - (23 : Nat) : Int) = 0 from rfl]
    by_cases h : d ≤ c
    · rw [if_pos (by simpa using h)]
      exact Or.inl ⟨rfl, h⟩
    · rw [if_neg (by simpa using h)]
      exact Or.inr ⟨rfl, by omega⟩
  unfold FP.Core.roundRatio
  rw [if_neg (by omega)]
  unfold FP.Core.roundAt
  rcases hl with ⟨hk, hdc⟩ | ⟨hk, hdc⟩
  · have hq : FP.Core.quantum FP.Core.b32 c d e = e - 23 := by
      unfold FP.Core.quantum
      rw [hk, b32_q, show FP.Core.b32.p = 24 from rfl]
      omega
    rw [hq]
    refine settle_ge ?_ (by omega)
    refine Nat.le_trans ?_ near_ge
    unfold FP.Core.unitsNum FP.Core.unitsDen
    rw [show (e - (e - 23)).toNat = 23 by omega, show (e - 23 - e).toNat = 0 by omega, Nat.pow_zero, Nat.mul_one]
    refine (Nat.le_div_iff_mul_le (by omega)).mpr ?_
    rw [show (2 : Nat) ^ 23 = 8388608 from rfl, Nat.mul_comm c]
    exact Nat.mul_le_mul_left _ hdc
  · have he1 : 1 ≤ e := by
      rcases Int.lt_or_eq_of_le he with h | h
      · omega
      · have := h0 h.symm; omega
    have hq : FP.Core.quantum FP.Core.b32 c d e = e - 24 := by
      unfold FP.Core.quantum
      rw [hk, b32_q, show FP.Core.b32.p = 24 from rfl]
      omega
    rw [hq]
    refine settle_ge ?_ (by omega)
    refine Nat.le_trans ?_ near_ge
    unfold FP.Core.unitsNum FP.Core.unitsDen
    rw [show (e - (e - 24)).toNat = 24 by omega, show (e - 24 - e).toNat = 0 by omega, Nat.pow_zero, Nat.mul_one]
    refine (Nat.le_div_iff_mul_le (by omega)).mpr ?_
    rw [show (2 : Nat) ^ 24 = 16777216 from rfl]
    omega
theorem asm_f {E T : Nat} (hE : E < 256) (hT : T < 8388608) : FP.Core.fieldE FP.Core.b32 (FP.Core.assemble FP.Core.b32 false E T) = E ∧ FP.Core.fieldT FP.Core.b32 (FP.Core.assemble FP.Core.b32 false E T) = T ∧ FP.Core.fieldS FP.Core.b32 (FP.Core.assemble FP.Core.b32 false E T) = false := by
  unfold FP.Core.fieldE FP.Core.fieldT FP.Core.fieldS
  rw [asm_eq, b32_t, b32_e]
  have hd : ((false.toNat * 256 + E) * 8388608 + T) / 8388608 = E := by
    show ((0 * 256 + E) * 8388608 + T) / 8388608 = E
    omega
  rw [hd]
  refine ⟨by omega, ?_, ?_⟩
  · show ((0 * 256 + E) * 8388608 + T) % 8388608 = T
    omega
  · rw [show E / 256 % 2 = 0 by omega]
    rfl
/-- a whole number as a float -/
theorem i2f_dec {n : Nat} (h0 : n ≠ 0) (hn : n < 16777216) : FP.Core.decode FP.Core.b32 (FP.Core.i2f (nI n)).toNat = .fin false (n * 2 ^ (23 - n.log2)) ((n.log2 : Int) - 23) ∧ 8388608 ≤ n * 2 ^ (23 - n.log2) ∧ n * 2 ^ (23 - n.log2) < 16777216 := by
  have hlog : n.log2 < 24 := (Nat.log2_lt h0).mpr (by simpa using hn)
  have hlo : 2 ^ n.log2 ≤ n := Nat.log2_self_le h0
  have hhi : n < 2 ^ (n.log2 + 1) := Nat.lt_log2_self
  have e23 : 2 ^ n.log2 * 2 ^ (23 - n.log2) = 8388608 := by
    rw [← Nat.pow_add, show n.log2 + (23 - n.log2) = 23 by omega]
  have e24 : 2 ^ (n.log2 + 1) * 2 ^ (23 - n.log2) = 16777216 := by
    rw [← Nat.pow_add, show n.log2 + 1 + (23 - n.log2) = 24 by omega]
  have N1 : 8388608 ≤ n * 2 ^ (23 - n.log2) := by rw [← e23]; exact Nat.mul_le_mul_right _ hlo
  have N2 : n * 2 ^ (23 - n.log2) < 16777216 := by rw [← e24]; exact Nat.mul_lt_mul_of_pos_right hhi (Nat.two_pow_pos _)
  refine ⟨?_, N1, N2⟩
  rw [i2f_enc hn]
  have hl : FP.Core.leading n 1 = (n.log2 : Int) := by
    unfold FP.Core.leading
    have e1 : Nat.log2 1 = 0 := by decide
    rw [e1]
    show (if 1 * 2 ^ ((n.log2 : Int) - (0 : Nat)).toNat ≤ n * 2 ^ (-((n.log2 : Int) - (0 : Nat))).toNat then (n.log2 : Int) - (0 : Nat) else (n.log2 : Int) - (0 : Nat) - 1) = _
    rw [show ((n.log2 : Int) - (0 : Nat)) = (n.log2 : Int) by omega, Int.toNat_natCast, show (-(n.log2 : Int)).toNat = 0 by omega, if_pos (by simpa using hlo)]
  have hq : FP.Core.quantum FP.Core.b32 n 1 0 = (n.log2 : Int) - 23 := by
    unfold FP.Core.quantum
    rw [hl, b32_q, show FP.Core.b32.p = 24 from rfl]
    omega
  have hr : FP.Core.roundRatio FP.Core.b32 false n 1 0 = .fin false (n * 2 ^ (23 - n.log2)) ((n.log2 : Int) - 23) := by
    unfold FP.Core.roundRatio
    rw [if_neg h0]
    unfold FP.Core.roundAt
    rw [hq]
    unfold FP.Core.unitsNum FP.Core.unitsDen
    rw [show ((0 : Int) - ((n.log2 : Int) - 23)).toNat = 23 - n.log2 by omega, show ((n.log2 : Int) - 23 - 0).toNat = 0 by omega]
    have hn1 : FP.Core.nearest (n * 2 ^ (23 - n.log2)) (1 * 2 ^ 0) = n * 2 ^ (23 - n.log2) := by
      unfold FP.Core.nearest
      rw [show 1 * 2 ^ 0 = 1 from rfl, Nat.mod_one, if_pos (by decide), Nat.div_one]
    rw [hn1]
    unfold FP.Core.settle FP.Core.bound
    rw [b32_p, if_pos N2, b32_m, if_pos (by omega)]
  rw [hr]
  generalize n * 2 ^ (23 - n.log2) = N at N1 N2 ⊢
  rw [enc_fin, if_neg (by omega), ← asm_eq]
  generalize hE : ((n.log2 : Int) - 23 - -149).toNat = E0
  have hE1 : (E0 : Int) = (n.log2 : Int) - 23 - -149 := by rw [← hE]; exact Int.toNat_of_nonneg (by omega)
  obtain ⟨t1, t2, t3⟩ := asm_f (E := E0 + 1) (T := N - 8388608) (by omega) (by omega)
  unfold FP.Core.decode
  rw [t1, t2, t3, b32_e, b32_t, b32_q, if_neg (by omega), if_neg (by omega)]
  have e1 : 8388608 + (N - 8388608) = N := by omega
  have e2 : (-149 : Int) + (((E0 + 1 : Nat) : Int) - 1) = (n.log2 : Int) - 23 := by omega
  rw [e1, e2]
theorem log2_mono {a b : Nat} (h0 : b ≠ 0) (h : b ≤ a) : b.log2 ≤ a.log2 := by
  have ha : a ≠ 0 := by omega
  have h1 : 2 ^ b.log2 ≤ a := Nat.le_trans (Nat.log2_self_le h0) h
  exact (Nat.le_log2 ha).mpr h1
theorem fdiv_ge {a b : Nat} (h0 : b ≠ 0) (h : b ≤ a) (ha : a < 16777216) : fGe (FP.Core.fdiv (FP.Core.i2f (nI a)) (FP.Core.i2f (nI b))).toNat := by
  obtain ⟨a1, a2, a3⟩ := i2f_dec (n := a) (by omega) ha
  obtain ⟨b1, b2, b3⟩ := i2f_dec (n := b) h0 (by omega)
  have hl := log2_mono h0 h
  have hg : fGe (FP.Core.encode FP.Core.b32 (FP.Core.quotient FP.Core.b32 (FP.Core.decode FP.Core.b32 (FP.Core.i2f (nI a)).toNat) (FP.Core.decode FP.Core.b32 (FP.Core.i2f (nI b)).toNat))) := by
    rw [a1, b1]
    show fGe (FP.Core.encode FP.Core.b32 (if b * 2 ^ (23 - b.log2) = 0 then _ else FP.Core.roundRatio FP.Core.b32 false _ _ _))
    rw [if_neg (by omega)]
    refine ratio_ge a2 a3 b2 b3 (by omega) (fun he => ?_)
    have : a.log2 = b.log2 := by omega
    rw [this]
    exact Nat.mul_le_mul_right _ h
  have e : (FP.Core.fdiv (FP.Core.i2f (nI a)) (FP.Core.i2f (nI b))).toNat = FP.Core.encode FP.Core.b32 (FP.Core.quotient FP.Core.b32 (FP.Core.decode FP.Core.b32 (FP.Core.i2f (nI a)).toNat) (FP.Core.decode FP.Core.b32 (FP.Core.i2f (nI b)).toNat)) := UInt32.toNat_ofNat_of_lt' (fGe_lt hg)
  rw [e]
  exact hg
/-- as fcmpl has it -/
theorem cmp_ge {x : UInt32} (h : fGe x.toNat) : ¬ Op.cmpValue (FP.fcmp x FP.fconst1) .l < 0 := by
  have h1 : FP.Core.decode FP.Core.b32 (FP.fconst1).toNat = .fin false 8388608 (-23) := by decide +kernel
  have key : FP.fcmp x FP.fconst1 = some .gt ∨ FP.fcmp x FP.fconst1 = some .eq := by
    show FP.Core.order (FP.Core.decode FP.Core.b32 x.toNat) (FP.Core.decode FP.Core.b32 (FP.fconst1).toNat) = some .gt ∨ FP.Core.order (FP.Core.decode FP.Core.b32 x.toNat) (FP.Core.decode FP.Core.b32 (FP.fconst1).toNat) = some .eq
    rw [h1]
    obtain ⟨g1, g2⟩ := h
    generalize x.toNat = n at g1 g2
    unfold FP.Core.decode FP.Core.fieldE FP.Core.fieldT FP.Core.fieldS
    rw [b32_t, b32_e, b32_q]
    by_cases h5 : n / 8388608 % 256 = 256 - 1
    · rw [if_pos h5, if_pos (by omega), show n / 8388608 / 256 % 2 = 0 by omega]
      exact Or.inl rfl
    · rw [if_neg h5, if_neg (by omega), show n / 8388608 / 256 % 2 = 0 by omega]
      generalize hE : n / 8388608 % 256 = E at *
      generalize hc : 8388608 + n % 8388608 = c
      have hE1 : 127 ≤ E := by omega
      have hc1 : 8388608 ≤ c := by omega
      show some (compare (FP.Core.signed false (FP.Core.inUnits c (-149 + ((E : Int) - 1)) (min (-149 + ((E : Int) - 1)) (-23)))) (FP.Core.signed false (FP.Core.inUnits 8388608 (-23) (min (-149 + ((E : Int) - 1)) (-23))))) = some .gt ∨ some (compare (FP.Core.signed false (FP.Core.inUnits c (-149 + ((E : Int) - 1)) (min (-149 + ((E : Int) - 1)) (-23)))) (FP.Core.signed false (FP.Core.inUnits 8388608 (-23) (min (-149 + ((E : Int) - 1)) (-23))))) = some .eq
      rw [show min (-149 + ((E : Int) - 1)) (-23) = -23 by omega]
      have k1 : FP.Core.inUnits 8388608 (-23) (-23) = 8388608 := rfl
      have k2 : 8388608 ≤ FP.Core.inUnits c (-149 + ((E : Int) - 1)) (-23) := by
        unfold FP.Core.inUnits
        exact Nat.le_trans hc1 (Nat.le_mul_of_pos_right _ (Nat.two_pow_pos _))
      rw [k1]
      generalize FP.Core.inUnits c (-149 + ((E : Int) - 1)) (-23) = v at k2
      show some (compare (v : Int) ((8388608 : Nat) : Int)) = some .gt ∨ some (compare (v : Int) ((8388608 : Nat) : Int)) = some .eq
      by_cases hv : v = 8388608
      · subst hv
        exact Or.inr (by decide +kernel)
      · refine Or.inl (congrArg some ?_)
        show compareOfLessAndEq (v : Int) ((8388608 : Nat) : Int) = .gt
        unfold compareOfLessAndEq
        rw [if_neg (by omega), if_neg (by omega)]
  rcases key with k | k <;> rw [k] <;> decide
theorem cmp_one : ¬ Op.cmpValue (FP.fcmp FP.fconst1 FP.fconst1) .l < 0 := cmp_ge ⟨by decide +kernel, by decide +kernel⟩
theorem cmp_m1 : Op.cmpValue (FP.fcmp 3212836864 3212836864) .l = 0 := by
  have : FP.fcmp 3212836864 3212836864 = some .eq := by decide +kernel
  rw [this]
  rfl
end FQ1
