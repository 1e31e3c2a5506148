/-! PAIRS: what class and reference answer to one step of the law, and where it leaves them -/
section
variable {G : GG} {ad q : Nat → Nat → Nat} {P Pd Ps : PC} {kp : Bool} {HP : Nat → PC} {hn : Nat} {t : Nat → Nat} {tn : Nat} {T : T7} {W1 W2 : TC} {st : Bool} {g : Nat → Nat} {m : Nat → Nat} {ga gh gk iz wy wa tt rr we : Nat → Nat} {sp : Nat} {wr : Bool} {er : Int32}
theorem IV_mk (hI : IN g P kp Ps gk HP gh hn t tn W1 W2 st) : IV G (ad 0 0) (m 0) (cls G ad q P Pd Ps kp HP hn t tn T W1 W2 st) (mB G m g ga gh hn gk kp t tn iz wy wa tt rr we sp wr er).flatten := ⟨_, _, _, _, _, _, _, _, _, _, _, _, _, _, _, _, _, _, _, _, _, _, _, _, _, _, _, _, rfl, rfl, rfl, rfl, hI⟩
theorem IV_q {b : Bool} {W9 : TC} (h9 : TBT W9) (hI : IN g P kp Ps gk HP gh hn t tn W1 W2 st) : IV G (ad 0 0) (m 0) (if b = true then cls G ad q P Pd Ps kp HP hn t tn T (wK g st W1) W9 false else cls G ad q P Pd Ps kp HP hn t tn T W1 W9 st) (mB G m g ga gh hn gk kp t tn iz wy wa tt rr we sp wr er).flatten := by
  cases b with
  | true => exact IV_mk (IN_q hI h9)
  | false => exact IV_mk (IN_w hI h9)
theorem IV_qA {b : Bool} {W9 : TC} (h9 : TBT W9) (hI : IN g P kp Ps gk HP gh hn t tn W1 W2 st) {g' : Nat → Nat} (hg : AG g g') : IV G (ad 0 0) (m 0) (if b = true then cls G ad q P Pd Ps kp HP hn t tn T (wK g st W1) W9 false else cls G ad q P Pd Ps kp HP hn t tn T W1 W9 st) (mB G m g' ga gh hn gk kp t tn iz wy wa tt rr we sp wr er).flatten := by
  cases b with
  | true => exact IV_mk (IN_AG (IN_q hI h9) hg)
  | false => exact IV_mk (IN_AG (IN_w hI h9) hg)
end
theorem okRk_n {g : Nat → Nat} {x r : Int32} (h : okRk g x r = true) : ∃ x0 r0, x = nI x0 ∧ r = nI r0 ∧ x0 < 14 ∧ r0 ≤ 9 := by
  unfold okRk at h
  simp only [Bool.and_eq_true, Bool.not_eq_true', decide_eq_false_iff_not] at h
  obtain ⟨h1, h2, h3, -⟩ := h
  obtain ⟨x0, hx, rfl⟩ := isC_n h1
  obtain ⟨r0, hr, rfl⟩ := nI_of2 (x := r) (M := 9) (n := 9) rfl h2 (Int32.not_lt.mp h3)
  exact ⟨x0, r0, rfl, rfl, hx, hr⟩
theorem okCl_n {g : Nat → Nat} (hv : Vg g) {x : Int32} {b : Bool} (h : okCl g x b = true) : ∃ i, i < kL g ∧ x = nI i := by
  unfold okCl at h
  rw [Bool.and_eq_true] at h
  exact tHas_s (by have := hv.1; omega) h.1

theorem pr_lane {l : Launch} {G : GG} {a r : Nat} {wc wm : va_W} {x y ln d : Int32} (h : IV G a r wc wm) : ∃ (z : Int32) (Q1 Q2 : Option Value → va_W → Prop), zX l G yX6_lane cX6_lane 6 (some .int) 5 110 0 0 [.ref a, .int x, .int y, .int ln, .int d] wc Q1 ∧ zX l G yX7_lane cX7_lane 6 (some .int) 3 66 0 0 [.ref r, .int x, .int y, .int ln, .int d] wm Q2 ∧ (∀ v w, Q1 v w → v = some (.int z)) ∧ ∀ v w v' w', Q1 v w → Q2 v' w' → v' = some (.int z) ∧ IV G a r w w' := by
  obtain ⟨ad, q, P, Pd, Ps, kp, HP, hn, t, tn, T, W1, W2, st, g, m, ga, gh, gk, iz, wy, wa, tt, rr, we, sp, wr, er, rfl, rfl, rfl, rfl, hI⟩ := h
  obtain ⟨hP, hv, hh, h4, hk, ht, hc, hW1, hW2, hw⟩ := id hI
  refine ⟨_, _, _, m_X6_lane (l := l) hP hv h4, m_X7_lane hv h4, fun _ _ hq => hq.1, ?_⟩
  rintro v w v' w' ⟨rfl, rfl⟩ ⟨rfl, rfl⟩
  refine ⟨rfl, ?_⟩
  rw [hN_rc h4]
  by_cases hok : okLn (kL g) x y ln d = true
  · simp only [if_pos hok]
    obtain ⟨x0, y0, l0, d0, rfl, rfl, rfl, rfl, q1, q2, q3, q4, q5, q6, q7⟩ := okLn_n hok
    have hk24 : kL g < 24 := by have := hv.1; omega
    rw [nI_clamp (show x0 < 2 ^ 31 by omega), nI_clamp (show y0 < 2 ^ 31 by omega), nI_clamp (show l0 < 2 ^ 31 by omega), nI_clamp (show d0 < 2 ^ 31 by omega)]
    exact IV_mk (IN_rec hI (PR_add hP hk24) (Vg_add hv hk24 q1 q2 q3 q4 q5 q6))
  · simp only [if_neg hok]
    exact IV_mk hI

theorem pr_takeLane {l : Launch} {G : GG} {a r : Nat} {wc wm : va_W} {x : Int32} (h : IV G a r wc wm) : ∃ (z : Int32) (Q1 Q2 : Option Value → va_W → Prop), zX l G yX6_takeLane cX6_takeLane 2 (some .int) 5 110 0 0 [.ref a, .int x] wc Q1 ∧ zX l G yX7_takeLane cX7_takeLane 3 (some .int) 2 43 0 0 [.ref r, .int x] wm Q2 ∧ (∀ v w, Q1 v w → v = some (.int z)) ∧ ∀ v w v' w', Q1 v w → Q2 v' w' → v' = some (.int z) ∧ IV G a r w w' := by
  obtain ⟨ad, q, P, Pd, Ps, kp, HP, hn, t, tn, T, W1, W2, st, g, m, ga, gh, gk, iz, wy, wa, tt, rr, we, sp, wr, er, rfl, rfl, rfl, rfl, hI⟩ := h
  obtain ⟨hP, hv, hh, h4, hk, ht, hc, hW1, hW2, hw⟩ := id hI
  refine ⟨_, _, _, m_X6_takeLane (l := l) hP hv h4, m_X7_takeLane hv h4, fun _ _ hq => hq.1, ?_⟩
  rintro v w v' w' ⟨rfl, rfl⟩ ⟨rfl, rfl⟩
  refine ⟨rfl, ?_⟩
  rw [hN_rc h4]
  by_cases hok : tHas (nI (kL g)) x = true
  · simp only [if_pos hok]
    obtain ⟨i, hi, rfl⟩ := tHas_s (by have := hv.1; omega) hok
    rw [nI_clamp (show i < 2 ^ 31 by have := hv.1; omega)]
    exact IV_mk (IN_rec hI (PR_rem hP hv hi) (Vg_rem hv))
  · simp only [if_neg hok]
    exact IV_mk hI

theorem pr_close {l : Launch} {G : GG} {a r : Nat} {wc wm : va_W} {x : Int32} {b : Bool} (h : IV G a r wc wm) : ∃ (z : Int32) (Q1 Q2 : Option Value → va_W → Prop), zX l G yX6_close cX6_close 3 (some .int) 5 111 0 0 [.ref a, .int x, .int (bI b)] wc Q1 ∧ zX l G yX7_close cX7_close 3 (some .int) 4 89 0 0 [.ref r, .int x, .int (bI b)] wm Q2 ∧ (∀ v w, Q1 v w → v = some (.int z)) ∧ ∀ v w v' w', Q1 v w → Q2 v' w' → v' = some (.int z) ∧ IV G a r w w' := by
  obtain ⟨ad, q, P, Pd, Ps, kp, HP, hn, t, tn, T, W1, W2, st, g, m, ga, gh, gk, iz, wy, wa, tt, rr, we, sp, wr, er, rfl, rfl, rfl, rfl, hI⟩ := h
  obtain ⟨hP, hv, hh, h4, hk, ht, hc, hW1, hW2, hw⟩ := id hI
  refine ⟨_, _, _, m_X6_close (l := l) hP hv h4, m_X7_close hv h4, fun _ _ hq => hq.1, ?_⟩
  rintro v w v' w' ⟨rfl, rfl⟩ ⟨rfl, rfl⟩
  refine ⟨rfl, ?_⟩
  rw [hN_rc h4]
  by_cases hok : okCl g x b = true
  · simp only [if_pos hok]
    obtain ⟨i, hi, rfl⟩ := okCl_n hv hok
    rw [nI_clamp (show i < 2 ^ 31 by have := hv.1; omega)]
    rw [show bI b = nI (if b = true then 1 else 0) by cases b <;> rfl]
    exact IV_mk (IN_rec hI (PR_cl hP hv hi) (Vg_cl hv hi (by cases b <;> decide)))
  · simp only [if_neg hok]
    exact IV_mk hI

theorem pr_rank {l : Launch} {G : GG} {a r : Nat} {wc wm : va_W} {x r1 : Int32} (h : IV G a r wc wm) : ∃ (z : Int32) (Q1 Q2 : Option Value → va_W → Prop), zX l G yX6_rank cX6_rank 4 (some .int) 5 110 0 0 [.ref a, .int x, .int r1] wc Q1 ∧ zX l G yX7_rank cX7_rank 4 (some .int) 2 42 0 0 [.ref r, .int x, .int r1] wm Q2 ∧ (∀ v w, Q1 v w → v = some (.int z)) ∧ ∀ v w v' w', Q1 v w → Q2 v' w' → v' = some (.int z) ∧ IV G a r w w' := by
  obtain ⟨ad, q, P, Pd, Ps, kp, HP, hn, t, tn, T, W1, W2, st, g, m, ga, gh, gk, iz, wy, wa, tt, rr, we, sp, wr, er, rfl, rfl, rfl, rfl, hI⟩ := h
  obtain ⟨hP, hv, hh, h4, hk, ht, hc, hW1, hW2, hw⟩ := id hI
  refine ⟨_, _, _, m_X6_rank (l := l) hP hv h4, m_X7_rank hv h4, fun _ _ hq => hq.1, ?_⟩
  rintro v w v' w' ⟨rfl, rfl⟩ ⟨rfl, rfl⟩
  refine ⟨rfl, ?_⟩
  rw [hN_rc h4]
  by_cases hok : okRk g x r1 = true
  · simp only [if_pos hok]
    obtain ⟨x0, r0, rfl, rfl, q1, q2⟩ := okRk_n hok
    rw [nI_clamp (show x0 < 2 ^ 31 by omega), nI_clamp (show r0 < 2 ^ 31 by omega)]
    exact IV_mk (IN_rec hI (PR_rk hP q1) (Vg_rk hv q1 q2))
  · simp only [if_neg hok]
    exact IV_mk hI

theorem pr_alley {l : Launch} {G : GG} {a r : Nat} {wc wm : va_W} {x ln d : Int32} (h : IV G a r wc wm) : ∃ (z : Int32) (Q1 Q2 : Option Value → va_W → Prop), zX l G yX6_alley cX6_alley 5 (some .int) 5 110 0 0 [.ref a, .int x, .int ln, .int d] wc Q1 ∧ zX l G yX7_alley cX7_alley 5 (some .int) 3 65 0 0 [.ref r, .int x, .int ln, .int d] wm Q2 ∧ (∀ v w, Q1 v w → v = some (.int z)) ∧ ∀ v w v' w', Q1 v w → Q2 v' w' → v' = some (.int z) ∧ IV G a r w w' := by
  obtain ⟨ad, q, P, Pd, Ps, kp, HP, hn, t, tn, T, W1, W2, st, g, m, ga, gh, gk, iz, wy, wa, tt, rr, we, sp, wr, er, rfl, rfl, rfl, rfl, hI⟩ := h
  obtain ⟨hP, hv, hh, h4, hk, ht, hc, hW1, hW2, hw⟩ := id hI
  refine ⟨_, _, _, m_X6_alley (l := l) hP hv h4, m_X7_alley hv h4, fun _ _ hq => hq.1, ?_⟩
  rintro v w v' w' ⟨rfl, rfl⟩ ⟨rfl, rfl⟩
  refine ⟨rfl, ?_⟩
  rw [hN_rc h4]
  by_cases hok : okAl (kA g) x ln d = true
  · simp only [if_pos hok]
    obtain ⟨x0, l0, d0, rfl, rfl, rfl, q1, q2, q3, q4⟩ := okAl_n hok
    have hk12 : kA g < 12 := by have := hv.2.1; omega
    rw [nI_clamp (show x0 < 2 ^ 31 by omega), nI_clamp (show l0 < 2 ^ 31 by omega), nI_clamp (show d0 < 2 ^ 31 by omega)]
    exact IV_mk (IN_rec hI (PR_addA hP hv) (Vg_addA hv hk12 q1 q2 q3))
  · simp only [if_neg hok]
    exact IV_mk hI

theorem pr_takeAlley {l : Launch} {G : GG} {a r : Nat} {wc wm : va_W} {x : Int32} (h : IV G a r wc wm) : ∃ (z : Int32) (Q1 Q2 : Option Value → va_W → Prop), zX l G yX6_takeAlley cX6_takeAlley 2 (some .int) 5 110 0 0 [.ref a, .int x] wc Q1 ∧ zX l G yX7_takeAlley cX7_takeAlley 3 (some .int) 2 43 0 0 [.ref r, .int x] wm Q2 ∧ (∀ v w, Q1 v w → v = some (.int z)) ∧ ∀ v w v' w', Q1 v w → Q2 v' w' → v' = some (.int z) ∧ IV G a r w w' := by
  obtain ⟨ad, q, P, Pd, Ps, kp, HP, hn, t, tn, T, W1, W2, st, g, m, ga, gh, gk, iz, wy, wa, tt, rr, we, sp, wr, er, rfl, rfl, rfl, rfl, hI⟩ := h
  obtain ⟨hP, hv, hh, h4, hk, ht, hc, hW1, hW2, hw⟩ := id hI
  refine ⟨_, _, _, m_X6_takeAlley (l := l) hP hv h4, m_X7_takeAlley hv h4, fun _ _ hq => hq.1, ?_⟩
  rintro v w v' w' ⟨rfl, rfl⟩ ⟨rfl, rfl⟩
  refine ⟨rfl, ?_⟩
  rw [hN_rc h4]
  by_cases hok : tHas (nI (kA g)) x = true
  · simp only [if_pos hok]
    obtain ⟨i, hi, rfl⟩ := tHas_s (by have := hv.2.1; omega) hok
    rw [nI_clamp (show i < 2 ^ 31 by have := hv.2.1; omega)]
    exact IV_mk (IN_rec hI (PR_remA hP hv hi) (Vg_remA hv))
  · simp only [if_neg hok]
    exact IV_mk hI

theorem pr_tellAll {l : Launch} {G : GG} {a r : Nat} {wc wm : va_W} (h : IV G a r wc wm) : ∃ (z : Int32) (Q1 Q2 : Option Value → va_W → Prop), zX l G yX6_tellAll cX6_tellAll 4 (some .int) 6 128 0 0 [.ref a] wc Q1 ∧ zX l G yX7_tellAll cX7_tellAll 3 (some .int) 5 115 0 0 [.ref r] wm Q2 ∧ (∀ v w, Q1 v w → v = some (.int z)) ∧ ∀ v w v' w', Q1 v w → Q2 v' w' → v' = some (.int z) ∧ IV G a r w w' := by
  obtain ⟨ad, q, P, Pd, Ps, kp, HP, hn, t, tn, T, W1, W2, st, g, m, ga, gh, gk, iz, wy, wa, tt, rr, we, sp, wr, er, rfl, rfl, rfl, rfl, hI⟩ := h
  obtain ⟨hP, hv, hh, h4, hk, ht, hc, hW1, hW2, hw⟩ := id hI
  refine ⟨_, _, _, m_X6_tellAll (l := l) hP hv h4 ht hc, m_X7_tellAll (X1 := T.2) (X2 := (taT t tn T).2) hP hv h4 ht hc, fun _ _ hq => hq.1, ?_⟩
  rintro v w v' w' ⟨rfl, rfl⟩ ⟨rfl, ga', p', w9, e', rfl⟩
  refine ⟨rfl, ?_⟩
  have eO : tlO t tn T.2 (taT t tn T).2 g P = ((ffR t tn 60 ((0, false), T.2)).isNone && (taF g t tn T P).1.isNone) := rfl
  have eA : (A60 t tn (taT t tn T).2 g P).2.2.2.1 = (taF g t tn T P).2.2.2.1 := rfl
  rw [eO, eA, hN_rc h4]
  obtain ⟨q1, q2⟩ : PR (taF g t tn T P).2.2.2.1 (taF g t tn T P).2.2.2.2 ∧ Vg (taF g t tn T P).2.2.2.1 := taI_ok 60 _ g P 0 hP hv
  cases hF : ffR t tn 60 ((0, false), T.2) with
  | some i => exact IV_mk hI
  | none =>
    cases hT : (taF g t tn T P).1 with
    | some i => exact IV_mk hI
    | none => exact IV_mk (IN_rec hI q1 q2)

theorem pr_type {l : Launch} {G : GG} {a r : Nat} {wc wm : va_W} {cv : Nat} (hcv : cv < 65536) (h : IV G a r wc wm) : ∃ (z : Int32) (Q1 Q2 : Option Value → va_W → Prop), zX l G yX6_type cX6_type 2 (some .int) 1 21 0 0 [.ref a, .int (nI cv)] wc Q1 ∧ zX l G yX7_type cX7_type 2 (some .int) 0 0 0 0 [.ref r, .int (nI cv)] wm Q2 ∧ (∀ v w, Q1 v w → v = some (.int z)) ∧ ∀ v w v' w', Q1 v w → Q2 v' w' → v' = some (.int z) ∧ IV G a r w w' := by
  obtain ⟨ad, q, P, Pd, Ps, kp, HP, hn, t, tn, T, W1, W2, st, g, m, ga, gh, gk, iz, wy, wa, tt, rr, we, sp, wr, er, rfl, rfl, rfl, rfl, hI⟩ := h
  obtain ⟨hP, hv, hh, h4, hk, ht, hc, hW1, hW2, hw⟩ := id hI
  refine ⟨_, _, _, m_X6_type (l := l) ht hcv, m_X7_type ht, fun _ _ hq => hq.1, ?_⟩
  rintro v w v' w' ⟨rfl, rfl⟩ ⟨rfl, rfl⟩
  refine ⟨rfl, IV_mk ?_⟩
  by_cases h60 : tn < 60
  · simp only [if_pos h60]
    refine ⟨hP, hv, hh, h4, hk, by omega, fun k hk1 => ?_, hW1, hW2, hw⟩
    unfold updN
    by_cases e : k = tn
    · rw [if_pos e]; exact hcv
    · rw [if_neg e]; exact hc k (by omega)
  · simp only [if_neg h60]
    exact hI

theorem pr_clearText {l : Launch} {G : GG} {a r : Nat} {wc wm : va_W} (h : IV G a r wc wm) : ∃ (z : Int32) (Q1 Q2 : Option Value → va_W → Prop), zX l G yX6_clearText cX6_clearText 2 (some .int) 1 20 0 0 [.ref a] wc Q1 ∧ zX l G yX7_clearText cX7_clearText 2 (some .int) 0 0 0 0 [.ref r] wm Q2 ∧ (∀ v w, Q1 v w → v = some (.int z)) ∧ ∀ v w v' w', Q1 v w → Q2 v' w' → v' = some (.int z) ∧ IV G a r w w' := by
  obtain ⟨ad, q, P, Pd, Ps, kp, HP, hn, t, tn, T, W1, W2, st, g, m, ga, gh, gk, iz, wy, wa, tt, rr, we, sp, wr, er, rfl, rfl, rfl, rfl, hI⟩ := h
  obtain ⟨hP, hv, hh, h4, hk, ht, hc, hW1, hW2, hw⟩ := id hI
  refine ⟨_, _, _, m_X6_clearText (l := l), m_X7_clearText, fun _ _ hq => hq.1, ?_⟩
  rintro v w v' w' ⟨rfl, rfl⟩ ⟨rfl, rfl⟩
  exact ⟨rfl, IV_mk ⟨hP, hv, hh, h4, hk, by decide, fun k hk1 => absurd hk1 (Nat.not_lt_zero _), hW1, hW2, hw⟩⟩

theorem pr_fault {l : Launch} {G : GG} {a r : Nat} {wc wm : va_W} (h : IV G a r wc wm) : ∃ (z : Int32) (Q1 Q2 : Option Value → va_W → Prop), zX l G yX6_fault cX6_fault 1 (some .int) 6 128 0 0 [.ref a] wc Q1 ∧ zX l G yX7_fault cX7_fault 2 (some .int) 5 115 0 0 [.ref r] wm Q2 ∧ (∀ v w, Q1 v w → v = some (.int z)) ∧ ∀ v w v' w', Q1 v w → Q2 v' w' → v' = some (.int z) ∧ IV G a r w w' := by
  obtain ⟨ad, q, P, Pd, Ps, kp, HP, hn, t, tn, T, W1, W2, st, g, m, ga, gh, gk, iz, wy, wa, tt, rr, we, sp, wr, er, rfl, rfl, rfl, rfl, hI⟩ := h
  obtain ⟨hP, hv, hh, h4, hk, ht, hc, hW1, hW2, hw⟩ := id hI
  refine ⟨_, _, _, m_X6_fault (l := l) ht hc, m_X7_fault (X := T.2) hP hv ht hc, fun _ _ hq => hq.1, ?_⟩
  rintro v w v' w' ⟨rfl, rfl⟩ ⟨rfl, p', w9, e', rfl⟩
  exact ⟨rfl, IV_mk hI⟩

theorem pr_undo {l : Launch} {G : GG} {a r : Nat} {wc wm : va_W} (h : IV G a r wc wm) : ∃ (z : Int32) (Q1 Q2 : Option Value → va_W → Prop), zX l G yX6_undo cX6_undo 1 (some .int) 4 90 0 0 [.ref a] wc Q1 ∧ zX l G yX7_undo cX7_undo 2 (some .int) 0 0 0 0 [.ref r] wm Q2 ∧ (∀ v w, Q1 v w → v = some (.int z)) ∧ ∀ v w v' w', Q1 v w → Q2 v' w' → v' = some (.int z) ∧ IV G a r w w' := by
  obtain ⟨ad, q, P, Pd, Ps, kp, HP, hn, t, tn, T, W1, W2, st, g, m, ga, gh, gk, iz, wy, wa, tt, rr, we, sp, wr, er, rfl, rfl, rfl, rfl, hI⟩ := h
  obtain ⟨hP, hv, hh, h4, hk, ht, hc, hW1, hW2, hw⟩ := id hI
  refine ⟨_, _, _, m_X6_undo (l := l) h4, m_X7_undo h4, fun _ _ hq => hq.1, ?_⟩
  rintro v w v' w' ⟨rfl, rfl⟩ ⟨rfl, rfl⟩
  refine ⟨rfl, ?_⟩
  by_cases h0 : hn = 0
  · simp only [if_pos h0]
    subst h0
    exact IV_mk hI
  · simp only [if_neg h0]
    obtain ⟨q1, q2⟩ := hh (hn - 1) (by omega)
    exact IV_mk ⟨q1, q2, fun n hn1 => hh n (by omega), by omega, hk, ht, hc, hW1, hW2, fun e => by cases e⟩

theorem pr_keep {l : Launch} {G : GG} {a r : Nat} {wc wm : va_W} (h : IV G a r wc wm) : ∃ (z : Int32) (Q1 Q2 : Option Value → va_W → Prop), zX l G yX6_keep cX6_keep 1 (some .int) 3 68 0 0 [.ref a] wc Q1 ∧ zX l G yX7_keep cX7_keep 2 (some .int) 0 0 0 0 [.ref r] wm Q2 ∧ (∀ v w, Q1 v w → v = some (.int z)) ∧ ∀ v w v' w', Q1 v w → Q2 v' w' → v' = some (.int z) ∧ IV G a r w w' := by
  obtain ⟨ad, q, P, Pd, Ps, kp, HP, hn, t, tn, T, W1, W2, st, g, m, ga, gh, gk, iz, wy, wa, tt, rr, we, sp, wr, er, rfl, rfl, rfl, rfl, hI⟩ := h
  obtain ⟨hP, hv, hh, h4, hk, ht, hc, hW1, hW2, hw⟩ := id hI
  refine ⟨_, _, _, m_X6_keep (l := l) hP hv, m_X7_keep, fun _ _ hq => hq.1, ?_⟩
  rintro v w v' w' ⟨rfl, rfl⟩ ⟨rfl, rfl⟩
  exact ⟨rfl, IV_mk ⟨hP, hv, hh, h4, fun _ => ⟨hP, hv⟩, ht, hc, hW1, hW2, hw⟩⟩

theorem pr_restore {l : Launch} {G : GG} {a r : Nat} {wc wm : va_W} (h : IV G a r wc wm) : ∃ (z : Int32) (Q1 Q2 : Option Value → va_W → Prop), zX l G yX6_restore cX6_restore 1 (some .int) 5 110 0 0 [.ref a] wc Q1 ∧ zX l G yX7_restore cX7_restore 2 (some .int) 1 21 0 0 [.ref r] wm Q2 ∧ (∀ v w, Q1 v w → v = some (.int z)) ∧ ∀ v w v' w', Q1 v w → Q2 v' w' → v' = some (.int z) ∧ IV G a r w w' := by
  obtain ⟨ad, q, P, Pd, Ps, kp, HP, hn, t, tn, T, W1, W2, st, g, m, ga, gh, gk, iz, wy, wa, tt, rr, we, sp, wr, er, rfl, rfl, rfl, rfl, hI⟩ := h
  obtain ⟨hP, hv, hh, h4, hk, ht, hc, hW1, hW2, hw⟩ := id hI
  refine ⟨_, _, _, m_X6_restore (l := l) (g := gk) (fun e => (hk e).1) h4, m_X7_restore h4, fun _ _ hq => hq.1, ?_⟩
  rintro v w v' w' ⟨rfl, rfl⟩ ⟨rfl, rfl⟩
  refine ⟨rfl, ?_⟩
  rw [hN_rc h4]
  by_cases h0 : kp = true
  · simp only [if_pos h0]
    exact IV_mk (IN_rec hI (hk h0).1 (hk h0).2)
  · simp only [if_neg h0]
    exact IV_mk hI

theorem pr_laneOf {l : Launch} {G : GG} {a r : Nat} {wc wm : va_W} {x w : Int32} (h : IV G a r wc wm) : ∃ (z : Int32) (Q1 Q2 : Option Value → va_W → Prop), zX l G yX6_laneOf cX6_laneOf 3 (some .int) 4 89 0 0 [.ref a, .int x, .int w] wc Q1 ∧ zX l G yX7_laneOf cX7_laneOf 3 (some .int) 3 67 0 0 [.ref r, .int x, .int w] wm Q2 ∧ (∀ v w, Q1 v w → v = some (.int z)) ∧ ∀ v w v' w', Q1 v w → Q2 v' w' → v' = some (.int z) ∧ IV G a r w w' := by
  obtain ⟨ad, q, P, Pd, Ps, kp, HP, hn, t, tn, T, W1, W2, st, g, m, ga, gh, gk, iz, wy, wa, tt, rr, we, sp, wr, er, rfl, rfl, rfl, rfl, hI⟩ := h
  obtain ⟨hP, hv, hh, h4, hk, ht, hc, hW1, hW2, hw⟩ := id hI
  refine ⟨_, _, _, m_X6_laneOf (l := l) hP hv, m_X7_laneOf (Vk_of hv), fun _ _ hq => hq.1, ?_⟩
  rintro v w v' w' ⟨rfl, rfl⟩ ⟨rfl, rfl⟩
  exact ⟨rfl, IV_mk hI⟩

theorem pr_alleyOf {l : Launch} {G : GG} {a r : Nat} {wc wm : va_W} {x w : Int32} (h : IV G a r wc wm) : ∃ (z : Int32) (Q1 Q2 : Option Value → va_W → Prop), zX l G yX6_alleyOf cX6_alleyOf 3 (some .int) 7 163 0 0 [.ref a, .int x, .int w] wc Q1 ∧ zX l G yX7_alleyOf cX7_alleyOf 3 (some .int) 6 140 0 0 [.ref r, .int x, .int w] wm Q2 ∧ (∀ v w, Q1 v w → v = some (.int z)) ∧ ∀ v w v' w', Q1 v w → Q2 v' w' → v' = some (.int z) ∧ IV G a r w w' := by
  obtain ⟨ad, q, P, Pd, Ps, kp, HP, hn, t, tn, T, W1, W2, st, g, m, ga, gh, gk, iz, wy, wa, tt, rr, we, sp, wr, er, rfl, rfl, rfl, rfl, hI⟩ := h
  obtain ⟨hP, hv, hh, h4, hk, ht, hc, hW1, hW2, hw⟩ := id hI
  refine ⟨_, _, _, m_X6_alleyOf (l := l) hP hv hW1, m_X7_alleyOf (Vk_of hv), fun _ _ hq => hq.1, ?_⟩
  rintro v w0 v' w' ⟨rfl, rfl⟩ ⟨rfl, iz', wy', wa', tt', rr', we', rfl⟩
  refine ⟨congrArg (fun z => some (Value.int z)) (e_AO hv (IN_W hI)).symm, ?_⟩
  exact IV_q hW2 hI

theorem pr_crossingOf {l : Launch} {G : GG} {a r : Nat} {wc wm : va_W} {x w : Int32} (h : IV G a r wc wm) : ∃ (z : Int32) (Q1 Q2 : Option Value → va_W → Prop), zX l G yX6_crossingOf cX6_crossingOf 3 (some .int) 7 163 0 0 [.ref a, .int x, .int w] wc Q1 ∧ zX l G yX7_crossingOf cX7_crossingOf 3 (some .int) 6 141 0 0 [.ref r, .int x, .int w] wm Q2 ∧ (∀ v w, Q1 v w → v = some (.int z)) ∧ ∀ v w v' w', Q1 v w → Q2 v' w' → v' = some (.int z) ∧ IV G a r w w' := by
  obtain ⟨ad, q, P, Pd, Ps, kp, HP, hn, t, tn, T, W1, W2, st, g, m, ga, gh, gk, iz, wy, wa, tt, rr, we, sp, wr, er, rfl, rfl, rfl, rfl, hI⟩ := h
  obtain ⟨hP, hv, hh, h4, hk, ht, hc, hW1, hW2, hw⟩ := id hI
  refine ⟨_, _, _, m_X6_crossingOf (l := l) hP hv hW1, m_X7_crossingOf (Vk_of hv), fun _ _ hq => hq.1, ?_⟩
  rintro v w0 v' w' ⟨rfl, rfl⟩ ⟨rfl, iz', wy', wa', tt', rr', we', rfl⟩
  refine ⟨congrArg (fun z => some (Value.int z)) (e_CO hv (IN_W hI)).symm, ?_⟩
  exact IV_q hW2 hI

theorem pr_within {l : Launch} {G : GG} {a r : Nat} {wc wm : va_W} {d x y : Int32} (h : IV G a r wc wm) : ∃ (z : Int32) (Q1 Q2 : Option Value → va_W → Prop), zX l G yX6_within cX6_within 4 (some .int) 7 163 0 0 [.ref a, .int d, .int x, .int y] wc Q1 ∧ zX l G yX7_within cX7_within 4 (some .int) 4 91 0 0 [.ref r, .int d, .int x, .int y] wm Q2 ∧ (∀ v w, Q1 v w → v = some (.int z)) ∧ ∀ v w v' w', Q1 v w → Q2 v' w' → v' = some (.int z) ∧ IV G a r w w' := by
  obtain ⟨ad, q, P, Pd, Ps, kp, HP, hn, t, tn, T, W1, W2, st, g, m, ga, gh, gk, iz, wy, wa, tt, rr, we, sp, wr, er, rfl, rfl, rfl, rfl, hI⟩ := h
  obtain ⟨hP, hv, hh, h4, hk, ht, hc, hW1, hW2, hw⟩ := id hI
  refine ⟨_, _, _, m_X6_within (l := l) hP hv hW1, m_X7_within (Vk_of hv), fun _ _ hq => hq.1, ?_⟩
  rintro v w0 v' w' ⟨rfl, rfl⟩ ⟨rfl, iz', wy', wa', tt', rr', we', rfl⟩
  refine ⟨congrArg (fun z => some (Value.int z)) (e_WI (IN_W hI)).symm, ?_⟩
  exact IV_q hW2 hI

theorem pr_total {l : Launch} {G : GG} {a r : Nat} {wc wm : va_W} {x al w : Int32} (h : IV G a r wc wm) : ∃ (z : Int32) (Q1 Q2 : Option Value → va_W → Prop), zX l G yX6_total cX6_total 4 (some .int) 7 163 0 0 [.ref a, .int x, .int al, .int w] wc Q1 ∧ zX l G yX7_total cX7_total 5 (some .int) 5 124 0 0 [.ref r, .int x, .int al, .int w] wm Q2 ∧ (∀ v w, Q1 v w → v = some (.int z)) ∧ ∀ v w v' w', Q1 v w → Q2 v' w' → v' = some (.int z) ∧ IV G a r w w' := by
  obtain ⟨ad, q, P, Pd, Ps, kp, HP, hn, t, tn, T, W1, W2, st, g, m, ga, gh, gk, iz, wy, wa, tt, rr, we, sp, wr, er, rfl, rfl, rfl, rfl, hI⟩ := h
  obtain ⟨hP, hv, hh, h4, hk, ht, hc, hW1, hW2, hw⟩ := id hI
  refine ⟨_, _, _, m_X6_total (l := l) hP hv hW1, m_X7_total (Vk_of hv), fun _ _ hq => hq.1, ?_⟩
  rintro v w0 v' w' ⟨rfl, rfl⟩ ⟨rfl, iz', wy', wa', tt', rr', we', rfl⟩
  refine ⟨congrArg (fun z => some (Value.int z)) (e_TO hv (IN_W hI)).symm, ?_⟩
  exact IV_q hW2 hI

theorem pr_walk {l : Launch} {G : GG} {a r : Nat} {wc wm : va_W} {x al w : Int32} (h : IV G a r wc wm) : ∃ (z : Int32) (Q1 Q2 : Option Value → va_W → Prop), zX l G yX6_walk cX6_walk 9 (some .int) 7 163 0 0 [.ref a, .int x, .int al, .int w] wc Q1 ∧ zX l G yX7_walk cX7_walk 9 (some .int) 5 124 0 0 [.ref r, .int x, .int al, .int w] wm Q2 ∧ (∀ v w, Q1 v w → v = some (.int z)) ∧ ∀ v w v' w', Q1 v w → Q2 v' w' → v' = some (.int z) ∧ IV G a r w w' := by
  obtain ⟨ad, q, P, Pd, Ps, kp, HP, hn, t, tn, T, W1, W2, st, g, m, ga, gh, gk, iz, wy, wa, tt, rr, we, sp, wr, er, rfl, rfl, rfl, rfl, hI⟩ := h
  obtain ⟨hP, hv, hh, h4, hk, ht, hc, hW1, hW2, hw⟩ := id hI
  refine ⟨_, _, _, m_X6_walk (l := l) hP hv hW1, m_X7_walk (Vk_of hv), fun _ _ hq => hq.1, ?_⟩
  rintro v w0 v' w' ⟨rfl, rfl⟩ ⟨rfl, iz', wy', wa', tt', rr', we', rfl⟩
  refine ⟨congrArg (fun z => some (Value.int z)) (e_WK hv (IN_W hI)).symm, ?_⟩
  exact IV_q hW2 hI

theorem pr_shortest {l : Launch} {G : GG} {a r : Nat} {wc wm : va_W} {x w : Int32} (h : IV G a r wc wm) : ∃ (z : Int32) (Q1 Q2 : Option Value → va_W → Prop), zX l G yX6_shortest cX6_shortest 3 (some .int) 7 163 0 0 [.ref a, .int x, .int w] wc Q1 ∧ zX l G yX7_shortest cX7_shortest 3 (some .int) 4 91 0 0 [.ref r, .int x, .int w] wm Q2 ∧ (∀ v w, Q1 v w → v = some (.int z)) ∧ ∀ v w v' w', Q1 v w → Q2 v' w' → v' = some (.int z) ∧ IV G a r w w' := by
  obtain ⟨ad, q, P, Pd, Ps, kp, HP, hn, t, tn, T, W1, W2, st, g, m, ga, gh, gk, iz, wy, wa, tt, rr, we, sp, wr, er, rfl, rfl, rfl, rfl, hI⟩ := h
  obtain ⟨hP, hv, hh, h4, hk, ht, hc, hW1, hW2, hw⟩ := id hI
  refine ⟨_, _, _, m_X6_shortest (l := l) hP hv hW1, m_X7_shortest (Vk_of hv), fun _ _ hq => hq.1, ?_⟩
  rintro v w0 v' w' ⟨rfl, rfl⟩ ⟨rfl, iz', wy', wa', tt', rr', we', rfl⟩
  refine ⟨congrArg (fun z => some (Value.int z)) (e_SH (IN_W hI)).symm, ?_⟩
  exact IV_q hW2 hI

theorem pr_count {l : Launch} {G : GG} {a r : Nat} {wc wm : va_W} {w : Int32} (h : IV G a r wc wm) : ∃ (z : Int32) (Q1 Q2 : Option Value → va_W → Prop), zX l G yX6_count cX6_count 2 (some .int) 7 163 0 0 [.ref a, .int w] wc Q1 ∧ zX l G yX7_count cX7_count 2 (some .int) 6 145 0 0 [.ref r, .int w] wm Q2 ∧ (∀ v w, Q1 v w → v = some (.int z)) ∧ ∀ v w v' w', Q1 v w → Q2 v' w' → v' = some (.int z) ∧ IV G a r w w' := by
  obtain ⟨ad, q, P, Pd, Ps, kp, HP, hn, t, tn, T, W1, W2, st, g, m, ga, gh, gk, iz, wy, wa, tt, rr, we, sp, wr, er, rfl, rfl, rfl, rfl, hI⟩ := h
  obtain ⟨hP, hv, hh, h4, hk, ht, hc, hW1, hW2, hw⟩ := id hI
  refine ⟨_, _, _, m_X6_count (l := l) hP hv hW1, m_X7_count (Vk_of hv), fun _ _ hq => hq.1, ?_⟩
  rintro v w0 v' w' ⟨rfl, rfl⟩ ⟨rfl, iz', wy', wa', tt', rr', we', rfl⟩
  refine ⟨congrArg (fun z => some (Value.int z)) (e_CT hv (IN_W hI)).symm, ?_⟩
  exact IV_q hW2 hI

theorem pr_ifClosed {l : Launch} {G : GG} {a r : Nat} {wc wm : va_W} {x w : Int32} (h : IV G a r wc wm) : ∃ (z : Int32) (Q1 Q2 : Option Value → va_W → Prop), zX l G yX6_ifClosed cX6_ifClosed 3 (some .int) 7 163 0 0 [.ref a, .int x, .int w] wc Q1 ∧ zX l G yX7_ifClosed cX7_ifClosed 3 (some .int) 7 166 0 0 [.ref r, .int x, .int w] wm Q2 ∧ (∀ v w, Q1 v w → v = some (.int z)) ∧ ∀ v w v' w', Q1 v w → Q2 v' w' → v' = some (.int z) ∧ IV G a r w w' := by
  obtain ⟨ad, q, P, Pd, Ps, kp, HP, hn, t, tn, T, W1, W2, st, g, m, ga, gh, gk, iz, wy, wa, tt, rr, we, sp, wr, er, rfl, rfl, rfl, rfl, hI⟩ := h
  obtain ⟨hP, hv, hh, h4, hk, ht, hc, hW1, hW2, hw⟩ := id hI
  refine ⟨_, _, _, m_X6_ifClosed (l := l) hP hv hW1 hW2, m_X7_ifClosed hv, fun _ _ hq => hq.1, ?_⟩
  rintro v w0 v' w' ⟨rfl, W9, h9, rfl⟩ ⟨rfl, iz', wy', wa', tt', rr', we', rfl⟩
  refine ⟨congrArg (fun z => some (Value.int z)) (e_IC hv (IN_W hI)).symm, ?_⟩
  exact IV_q h9 hI

theorem pr_weakest {l : Launch} {G : GG} {a r : Nat} {wc wm : va_W} (h : IV G a r wc wm) : ∃ (z : Int32) (Q1 Q2 : Option Value → va_W → Prop), zX l G yX6_weakest cX6_weakest 7 (some .int) 7 163 0 0 [.ref a] wc Q1 ∧ zX l G yX7_weakest cX7_weakest 5 (some .int) 7 166 0 0 [.ref r] wm Q2 ∧ (∀ v w, Q1 v w → v = some (.int z)) ∧ ∀ v w v' w', Q1 v w → Q2 v' w' → v' = some (.int z) ∧ IV G a r w w' := by
  obtain ⟨ad, q, P, Pd, Ps, kp, HP, hn, t, tn, T, W1, W2, st, g, m, ga, gh, gk, iz, wy, wa, tt, rr, we, sp, wr, er, rfl, rfl, rfl, rfl, hI⟩ := h
  obtain ⟨hP, hv, hh, h4, hk, ht, hc, hW1, hW2, hw⟩ := id hI
  refine ⟨_, _, _, m_X6_weakest (l := l) hP hv hW1 hW2, m_X7_weakest hv, fun _ _ hq => hq.1, ?_⟩
  rintro v w0 v' w' ⟨rfl, W9, h9, rfl⟩ ⟨rfl, iz', wy', wa', tt', rr', we', rfl⟩
  refine ⟨congrArg (fun z => some (Value.int z)) (e_WE hv (IN_W hI)).symm, ?_⟩
  exact IV_mk (IN_q hI h9)

theorem pr_bestGate {l : Launch} {G : GG} {a r : Nat} {wc wm : va_W} {d w : Int32} (h : IV G a r wc wm) : ∃ (z : Int32) (Q1 Q2 : Option Value → va_W → Prop), zX l G yX6_bestGate cX6_bestGate 9 (some .int) 7 163 0 0 [.ref a, .int d, .int w] wc Q1 ∧ zX l G yX7_bestGate cX7_bestGate 10 (some .int) 7 167 0 0 [.ref r, .int d, .int w] wm Q2 ∧ (∀ v w, Q1 v w → v = some (.int z)) ∧ ∀ v w v' w', Q1 v w → Q2 v' w' → v' = some (.int z) ∧ IV G a r w w' := by
  obtain ⟨ad, q, P, Pd, Ps, kp, HP, hn, t, tn, T, W1, W2, st, g, m, ga, gh, gk, iz, wy, wa, tt, rr, we, sp, wr, er, rfl, rfl, rfl, rfl, hI⟩ := h
  obtain ⟨hP, hv, hh, h4, hk, ht, hc, hW1, hW2, hw⟩ := id hI
  refine ⟨_, _, _, m_X6_bestGate (l := l) hP hv hW1 hW2 (fun d hd => by rw [(IN_W hI).1 d hd]; exact dst_MD (Vk_l (Vk_of hv)) d), m_X7_bestGate hv, fun _ _ hq => hq.1, ?_⟩
  rintro v w0 v' w' ⟨rfl, W9, h9, rfl⟩ ⟨rfl, g', iz', wy', wa', tt', rr', we', hg, rfl⟩
  refine ⟨congrArg (fun z => some (Value.int z)) (e_BG hv (IN_W hI)).symm, ?_⟩
  exact IV_qA h9 hI hg
