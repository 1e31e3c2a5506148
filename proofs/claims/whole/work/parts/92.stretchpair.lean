/-! A FLOAT THAT IS A NUMBER IS A NUMBER AS A DOUBLE -/
section F2D
def fN (z : UInt32) : Prop := FP.Core.decode FP.Core.b32 z.toNat ≠ .nan
def dOk : FP.Core.Datum → Prop
  | .nan => False
  | .inf _ => True
  | .fin _ c q => c < 9007199254740992 ∧ -1074 ≤ q ∧ q ≤ 971
theorem b64_t : FP.Core.Fmt.tails FP.Core.b64 = 4503599627370496 := rfl
theorem b64_q : FP.Core.Fmt.qmin FP.Core.b64 = -1074 := rfl
theorem b64_m : FP.Core.Fmt.qmax FP.Core.b64 = 971 := rfl
theorem b64_p : (2 : Nat) ^ FP.Core.b64.p = 9007199254740992 := rfl
theorem bound_ok6 {s : Bool} {c : Nat} {q : Int} (h : c < 9007199254740992) (h2 : -1074 ≤ q) : dOk (FP.Core.bound FP.Core.b64 s c q) := by
  unfold FP.Core.bound
  rw [b64_m]
  split
  · exact ⟨h, h2, by assumption⟩
  · exact True.intro
theorem settle_ok6 {s : Bool} {c : Nat} {q : Int} (h2 : -1074 ≤ q) : dOk (FP.Core.settle FP.Core.b64 s c q) := by
  unfold FP.Core.settle
  rw [b64_p]
  split
  · exact bound_ok6 (by assumption) h2
  · exact bound_ok6 (by rw [b64_t]; decide) (by omega)
theorem ratio_ok6 (s : Bool) (num den : Nat) (e : Int) : dOk (FP.Core.roundRatio FP.Core.b64 s num den e) := by
  unfold FP.Core.roundRatio
  split
  · exact ⟨by decide, by rw [b64_q]; decide, by rw [b64_q]; decide⟩
  · refine settle_ok6 ?_
    unfold FP.Core.quantum
    rw [b64_q]
    omega
theorem enc_fin6 {s : Bool} {c : Nat} {q : Int} : FP.Core.encode FP.Core.b64 (.fin s c q) = if c < 4503599627370496 then (s.toNat * 2048 + 0) * 4503599627370496 + c else (s.toNat * 2048 + ((q - -1074).toNat + 1)) * 4503599627370496 + (c - 4503599627370496) := rfl
theorem enc_ok6 {d : FP.Core.Datum} (h : dOk d) : FP.Core.encode FP.Core.b64 d % 9223372036854775808 ≤ 9218868437227405312 ∧ FP.Core.encode FP.Core.b64 d < 18446744073709551616 := by
  cases d with
  | nan => exact absurd h id
  | inf s => cases s <;> decide
  | fin s c q =>
    obtain ⟨h1, h2, h3⟩ := h
    rw [enc_fin6]
    split
    · cases s <;> simp <;> omega
    · have : ((q - -1074).toNat : Int) = q - -1074 := Int.toNat_of_nonneg (by omega)
      cases s <;> simp <;> omega
theorem n64_of {n : Nat} (h : n % 9223372036854775808 ≤ 9218868437227405312) (h2 : n < 18446744073709551616) : vf_n64 (UInt64.ofNat n) := by
  unfold vf_n64
  rw [UInt64.le_iff_toNat_le, UInt64.toNat_and]
  rw [UInt64.toNat_ofNat_of_lt' (by simpa using h2)]
  rw [show (0x7fffffffffffffff : UInt64).toNat = 2 ^ 63 - 1 from rfl, Nat.and_two_pow_sub_one_eq_mod]
  exact h
theorem f2d_ok {z : UInt32} (h : fN z) : vf_n64 (FP.f2d z) := by
  have h1 : FP.Core.fIsNaN z = false := decide_eq_false h
  have hd : dOk (FP.Core.round FP.Core.b64 (FP.Core.decode FP.Core.b32 z.toNat)) := by
    unfold fN at h
    revert h
    cases FP.Core.decode FP.Core.b32 z.toNat with
    | nan => intro hx; exact absurd rfl hx
    | inf s => intro _; exact True.intro
    | fin s c q => intro _; exact ratio_ok6 _ _ _ _
  unfold FP.f2d
  rw [h1, if_neg (by decide)]
  exact n64_of (enc_ok6 hd).1 (enc_ok6 hd).2
theorem fq_N {n k : Nat} (hn : n < 16777216) (hk : k < 16777216) (h0 : k ≠ 0) : fN (FP.Core.fdiv (FP.Core.i2f (nI n)) (FP.Core.i2f (nI k))) := by
  obtain ⟨s', c', q', e, hc⟩ := i2f_pos hk h0
  have hd : fOk (FP.Core.quotient FP.Core.b32 (FP.Core.decode FP.Core.b32 (FP.Core.i2f (nI n)).toNat) (FP.Core.decode FP.Core.b32 (FP.Core.i2f (nI k)).toNat)) := by
    rw [e]
    have hx : FP.Core.decode FP.Core.b32 (FP.Core.i2f (nI n)).toNat ≠ .nan := by rw [i2f_enc hn]; exact dec_ok (ratio_ok _ _ _ _)
    revert hx
    cases FP.Core.decode FP.Core.b32 (FP.Core.i2f (nI n)).toNat with
    | nan => intro hx; exact absurd rfl hx
    | inf s => intro _; exact True.intro
    | fin s c q =>
      intro _
      show fOk (if c' = 0 then (if c = 0 then FP.Core.Datum.nan else FP.Core.Datum.inf (s != s')) else FP.Core.roundRatio FP.Core.b32 (s != s') c c' (q - q'))
      rw [if_neg hc]
      exact ratio_ok _ _ _ _
  unfold fN FP.Core.fdiv FP.Core.div
  rw [UInt32.toNat_ofNat_of_lt' (show _ < UInt32.size from (enc_ok hd).2)]
  exact dec_ok hd
theorem rST_N {g : Nat → Nat} (hv : Vk g) {x al : Int32} : fN (rST g x al) := by
  have hm : fN 3212836864 := by unfold fN; decide
  have h1 : fN FP.fconst1 := by unfold fN; decide
  unfold rST
  split
  · rename_i hc
    rw [Bool.and_eq_true] at hc
    obtain ⟨i, hi, rfl⟩ := isC_n hc.1
    obtain ⟨j, hj, rfl⟩ := tHas_s (by have := hv.2.1; omega) hc.2
    rw [nI_clamp (show i < 2 ^ 31 by omega), nI_clamp (show j < 2 ^ 31 by have := hv.2.1; omega)]
    split
    · exact hm
    · split
      · exact h1
      · have q1 := FS_le g j i
        have q2 := shO_le hv hi hj
        exact fq_N (by omega) (by omega) (by assumption)
  · exact hm
end F2D
theorem pr_stretch {l : Launch} {G : GG} {a r : Nat} {wc wm : va_W} {x al : Int32} (h : IV G a r wc wm) : ∃ (z : UInt32) (Q1 Q2 : Option Value → va_W → Prop), fN z ∧ zX l G yX6_stretch cX6_stretch 4 (some .float) 7 163 0 0 [.ref a, .int x, .int al] wc Q1 ∧ zX l G yX7_stretch cX7_stretch 4 (some .float) 5 117 0 0 [.ref r, .int x, .int al] wm Q2 ∧ (∀ v w, Q1 v w → v = some (.float z)) ∧ ∀ v w v' w', Q1 v w → Q2 v' w' → v' = some (.float z) ∧ IV G a r w w' := by
  obtain ⟨ad, q, P, Pd, Ps, kp, HP, hn, t, tn, T, W1, W2, st, g, m, ga, gh, gk, iz, wy, wa, tt, rr, we, sp, wr, er, rfl, rfl, rfl, rfl, hI⟩ := h
  obtain ⟨hP, hv, hh, h4, hk, ht, hc, hW1, hW2, hw⟩ := id hI
  refine ⟨aST g (wK g st W1) x al, _, _, ?_, m_X6_stretch (l := l) hP hv hW1, m_X7_stretch (Vk_of hv), fun _ _ hq => hq.1, ?_⟩
  · rw [e_ST hv (IN_W hI)]
    exact rST_N (Vk_of hv)
  · rintro v w0 v' w' ⟨rfl, rfl⟩ ⟨rfl, iz', wy', wa', tt', rr', we', rfl⟩
    exact ⟨congrArg (fun z => some (Value.float z)) (e_ST hv (IN_W hI)).symm, IV_q hW2 hI⟩
