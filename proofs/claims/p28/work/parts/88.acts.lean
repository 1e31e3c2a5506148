/-! ACTS ON AN OBJECT -/
theorem okLn_n {k : Nat} {x y ln d : Int32} (h : okLn k x y ln d = true) : ∃ x0 y0 l0 d0, x = nI x0 ∧ y = nI y0 ∧ ln = nI l0 ∧ d = nI d0 ∧ x0 < 14 ∧ y0 < 14 ∧ x0 ≠ y0 ∧ 1 ≤ l0 ∧ l0 ≤ 20 ∧ d0 < 4 ∧ k ≠ 24 := by
  unfold okLn at h
  simp only [Bool.and_eq_true, decide_eq_true_eq] at h
  obtain ⟨⟨h1, h2, h3⟩, h4⟩ := h
  obtain ⟨x0, hx, rfl⟩ := isC_n h1
  obtain ⟨y0, hy, rfl⟩ := isC_n h2
  obtain ⟨d0, hd, rfl⟩ := isDi_n h3
  obtain ⟨r1, r2, r3, r4⟩ := refL_0 h4
  obtain ⟨l0, hl, rfl⟩ := nI_of2 (x := ln) (M := 20) (n := 20) rfl (fun h => r1 (Int32.lt_trans h (by decide))) (Int32.not_lt.mp r2)
  refine ⟨x0, y0, l0, d0, rfl, rfl, rfl, rfl, hx, hy, fun h => r3 (by rw [h]), ?_, hl, hd, r4⟩
  have := mt (nI_ltI (a := l0) (b := 1) (by omega) (by decide)).mpr r1
  omega
theorem okAl_n {k : Nat} {x ln d : Int32} (h : okAl k x ln d = true) : ∃ x0 l0 d0, x = nI x0 ∧ ln = nI l0 ∧ d = nI d0 ∧ x0 < 14 ∧ l0 ≤ 20 ∧ d0 < 4 ∧ k ≠ 12 := by
  unfold okAl at h
  simp only [Bool.and_eq_true, decide_eq_true_eq] at h
  obtain ⟨⟨h1, h3⟩, h4⟩ := h
  obtain ⟨x0, hx, rfl⟩ := isC_n h1
  obtain ⟨d0, hd, rfl⟩ := isDi_n h3
  obtain ⟨r1, r2, r4⟩ := refA_0 h4
  obtain ⟨l0, hl, rfl⟩ := nI_of2 (x := ln) (M := 20) (n := 20) rfl r1 (Int32.not_lt.mp r2)
  exact ⟨x0, l0, d0, rfl, rfl, rfl, hx, hl, hd, r4⟩

theorem okRk_n {g : Nat → Nat} {x r : Int32} (h : okRk g x r = true) : ∃ x0 r0, x = nI x0 ∧ r = nI r0 ∧ x0 < 14 ∧ r0 ≤ 9 := by
  unfold okRk at h
  simp only [Bool.and_eq_true, Bool.not_eq_true', decide_eq_false_iff_not] at h
  obtain ⟨h1, h2, h3, -⟩ := h
  obtain ⟨x0, hx, rfl⟩ := isC_n h1
  obtain ⟨r0, hr, rfl⟩ := nI_of2 (x := r) (M := 9) (n := 9) rfl h2 (Int32.not_lt.mp h3)
  exact ⟨x0, r0, rfl, rfl, hx, hr⟩
theorem okCl_n {g : Nat → Nat} (hv : Vg g) {x : Int32} {b : Bool} (h : okCl g x b = true) : ∃ i, i < kL g ∧ x = nI i := by
  unfold okCl at h
  rw [Bool.and_eq_true] at h
  exact tHas_s (by have := hv.1; omega) h.1

def OBX (G : GG) (a : Nat) (g : Nat → Nat) (hn : Nat) (F : (Nat → PC) → Prop) (w : va_W) : Prop := ∃ W, OB G a g hn F W w
/-- the state that comes back, by the history's rows -/
def HL (g0 : Nat → Nat) (hn : Nat) : (Nat → PC) → Prop := fun HP => 1 ≤ hn ∧ PR g0 (HP (hn - 1)) ∧ Vg g0
def HT : (Nat → PC) → Prop := fun _ => True
theorem OB_X {G : GG} {a : Nat} {g : Nat → Nat} {hn : Nat} {F : (Nat → PC) → Prop} {W : TC} {w : va_W} (h : OB G a g hn F W w) : OBX G a g hn F w := ⟨W, h⟩
theorem OBX_T {G : GG} {a : Nat} {g : Nat → Nat} {hn : Nat} {F : (Nat → PC) → Prop} {w : va_W} (h : OBX G a g hn F w) : OBX G a g hn HT w := by
  obtain ⟨W, ad, q, P, Pd, Ps, kp, HP, t, tn, T, W1, W2, st, h0, h1, hP, hv, h4, t1, t2, hW, hK, hF⟩ := h
  exact ⟨W, ad, q, P, Pd, Ps, kp, HP, t, tn, T, W1, W2, st, h0, h1, hP, hv, h4, t1, t2, hW, hK, trivial⟩
theorem OBX_rec {G : GG} {a : Nat} {g : Nat → Nat} {hn : Nat} {F : (Nat → PC) → Prop} {w : va_W} (h : OBX G a g hn F w) : ∃ (fs : List Value) (k0 : Nat), w[k0]? = some (a, .inr (6, fs)) := by
  obtain ⟨W, h⟩ := h
  exact OB_rec h
theorem OBX_v {G : GG} {a : Nat} {g : Nat → Nat} {hn : Nat} {F : (Nat → PC) → Prop} {w : va_W} (h : OBX G a g hn F w) : Vg g ∧ hn ≤ 4 := by
  obtain ⟨W, h⟩ := h
  exact ⟨(OB_v h).1, (OB_v h).2.1⟩
theorem hP_last {HP : Nat → PC} {hn : Nat} {P : PC} (h4 : hn ≤ 4) : hP' HP hn P (hN hn - 1) = P := by
  unfold hP' hN
  by_cases h : hn < 4
  · rw [if_pos h, if_pos h, Nat.add_sub_cancel]
    exact if_pos rfl
  · rw [if_neg h, if_neg h]
    exact if_pos rfl
theorem hN_b {hn : Nat} (h4 : hn ≤ 4) : hN hn ≤ 4 ∧ 1 ≤ hN hn := by
  unfold hN
  split <;> omega
/-- what an act leaves: nothing new, or a new state and the one before it -/
def AP (G : GG) (a : Nat) (g : Nat → Nat) (hn : Nat) (F : (Nat → PC) → Prop) (o : Option (Nat → Nat)) (w : va_W) : Prop := match o with
  | none => OBX G a g hn F w
  | some g' => OBX G a g' (hN hn) (HL g (hN hn)) w
section AC
variable {l : Launch} {G : GG} {a : Nat} {g : Nat → Nat} {hn : Nat} {F : (Nat → PC) → Prop} {w0 : va_W}
theorem AP_rec {ad q : Nat → Nat → Nat} {P Pd Ps : PC} {kp : Bool} {HP : Nat → PC} {t : Nat → Nat} {tn : Nat} {T : T7} {W1 W2 : TC} {g' : Nat → Nat} {P' : PC} (hP : PR g P) (hv : Vg g) (h4 : hn ≤ 4) (t1 : TBT W1) (t2 : TBT W2) (hP9 : PR g' P') (hv9 : Vg g') : AP G (ad 0 0) g hn F (some g') (cls G ad (hQ q hn) P' Pd Ps kp (hP' HP hn P) (hN hn) t tn T W1 W2 true) :=
  ⟨_, ad, hQ q hn, P', Pd, Ps, kp, hP' HP hn P, t, tn, T, W1, W2, true, rfl, rfl, hP9, hv9, (hN_b h4).1, t1, t2, rfl, WOK_of hv9 W1, (hN_b h4).2, by rw [hP_last h4]; exact hP, hv⟩
def gLn (g : Nat → Nat) (x y ln d : Int32) : Option (Nat → Nat) := if okLn (kL g) x y ln d then some (gAdd g x.toNatClampNeg y.toNatClampNeg ln.toNatClampNeg d.toNatClampNeg) else none
def gAl (g : Nat → Nat) (x ln d : Int32) : Option (Nat → Nat) := if okAl (kA g) x ln d then some (gAddA g x.toNatClampNeg ln.toNatClampNeg d.toNatClampNeg) else none
def gTL (g : Nat → Nat) (x : Int32) : Option (Nat → Nat) := if tHas (nI (kL g)) x then some (gRem g x.toNatClampNeg) else none
def gTA (g : Nat → Nat) (x : Int32) : Option (Nat → Nat) := if tHas (nI (kA g)) x then some (gRemA g x.toNatClampNeg) else none
def gCS (g : Nat → Nat) (x : Int32) (b : Bool) : Option (Nat → Nat) := if okCl g x b then some (gCl g x.toNatClampNeg (if b then 1 else 0)) else none
def gRK (g : Nat → Nat) (x r : Int32) : Option (Nat → Nat) := if okRk g x r then some (gRk g x.toNatClampNeg r.toNatClampNeg) else none
def aTL (g : Nat → Nat) (x : Int32) : Int32 := if tHas (nI (kL g)) x then nI (kL g - 1) else -1
def aTA (g : Nat → Nat) (x : Int32) : Int32 := if tHas (nI (kA g)) x then nI (kA g - 1) else -1
theorem OBX_go {Y : Prop} (h : OBX G a g hn F w0) (k : ∀ (ad q : Nat → Nat → Nat) (P Pd Ps : PC) (kp : Bool) (HP : Nat → PC) (t : Nat → Nat) (tn : Nat) (T : T7) (W1 W2 : TC) (st : Bool), ad 0 0 = a → w0 = cls G ad q P Pd Ps kp HP hn t tn T W1 W2 st → PR g P → Vg g → hn ≤ 4 → TBT W1 → TBT W2 → AP G a g hn F none (cls G ad q P Pd Ps kp HP hn t tn T W1 W2 st) → Y) : Y := by
  obtain ⟨W, ad, q, P, Pd, Ps, kp, HP, t, tn, T, W1, W2, st, h0, h1, hP, hv, h4, t1, t2, hW, hK, hF⟩ := h
  exact k ad q P Pd Ps kp HP t tn T W1 W2 st h0 h1 hP hv h4 t1 t2 ⟨W, ad, q, P, Pd, Ps, kp, HP, t, tn, T, W1, W2, st, h0, rfl, hP, hv, h4, t1, t2, hW, hK, hF⟩
theorem a_LN {x : Int32} {y : Int32} {ln : Int32} {d : Int32} (h : OBX G a g hn F w0) : zY l G yX6_lane cX6_lane 6 (some .int) 5 110 [.ref a, .int x, .int y, .int ln, .int d] w0 (.int (aLn (kL g) x y ln d)) (AP G a g hn F (gLn g x y ln d)) := by
  refine OBX_go h fun ad q P Pd Ps kp HP t tn T W1 W2 st h0 h1 hP hv h4 t1 t2 hs => ?_
  subst h0 h1
  refine ⟨_, m_X6_lane hP hv h4, fun v w hq => ?_⟩
  obtain ⟨rfl, rfl⟩ := hq
  refine ⟨rfl, ?_⟩
  unfold gLn
  split
  · rename_i hok
    obtain ⟨x0, y0, l0, d0, rfl, rfl, rfl, rfl, q1, q2, q3, q4, q5, q6, q7⟩ := okLn_n hok
    have hk24 : kL g < 24 := by have := hv.1; omega
    rw [nI_clamp (show x0 < 2 ^ 31 by omega), nI_clamp (show y0 < 2 ^ 31 by omega), nI_clamp (show l0 < 2 ^ 31 by omega), nI_clamp (show d0 < 2 ^ 31 by omega)]
    exact AP_rec hP hv h4 t1 t2 (PR_add hP hk24) (Vg_add hv hk24 q1 q2 q3 q4 q5 q6)
  · exact hs
theorem a_TL {x : Int32} (h : OBX G a g hn F w0) : zY l G yX6_takeLane cX6_takeLane 2 (some .int) 5 110 [.ref a, .int x] w0 (.int (aTL g x)) (AP G a g hn F (gTL g x)) := by
  refine OBX_go h fun ad q P Pd Ps kp HP t tn T W1 W2 st h0 h1 hP hv h4 t1 t2 hs => ?_
  subst h0 h1
  refine ⟨_, m_X6_takeLane hP hv h4, fun v w hq => ?_⟩
  obtain ⟨rfl, rfl⟩ := hq
  refine ⟨rfl, ?_⟩
  unfold gTL
  split
  · rename_i hok
    obtain ⟨i, hi, rfl⟩ := tHas_s (by have := hv.1; omega) hok
    rw [nI_clamp (show i < 2 ^ 31 by have := hv.1; omega)]
    exact AP_rec hP hv h4 t1 t2 (PR_rem hP hv hi) (Vg_rem hv)
  · exact hs
theorem a_CS {x : Int32} {b : Bool} (h : OBX G a g hn F w0) : zY l G yX6_close cX6_close 3 (some .int) 5 111 [.ref a, .int x, .int (bI b)] w0 (.int (aCl g x b)) (AP G a g hn F (gCS g x b)) := by
  refine OBX_go h fun ad q P Pd Ps kp HP t tn T W1 W2 st h0 h1 hP hv h4 t1 t2 hs => ?_
  subst h0 h1
  refine ⟨_, m_X6_close hP hv h4, fun v w hq => ?_⟩
  obtain ⟨rfl, rfl⟩ := hq
  refine ⟨rfl, ?_⟩
  unfold gCS
  split
  · rename_i hok
    obtain ⟨i, hi, rfl⟩ := okCl_n hv hok
    rw [nI_clamp (show i < 2 ^ 31 by have := hv.1; omega)]
    rw [show bI b = nI (if b = true then 1 else 0) by cases b <;> rfl]
    exact AP_rec hP hv h4 t1 t2 (PR_cl hP hv hi) (Vg_cl hv hi (by cases b <;> decide))
  · exact hs
theorem a_RK {x : Int32} {r : Int32} (h : OBX G a g hn F w0) : zY l G yX6_rank cX6_rank 4 (some .int) 5 110 [.ref a, .int x, .int r] w0 (.int (aRk g x r)) (AP G a g hn F (gRK g x r)) := by
  refine OBX_go h fun ad q P Pd Ps kp HP t tn T W1 W2 st h0 h1 hP hv h4 t1 t2 hs => ?_
  subst h0 h1
  refine ⟨_, m_X6_rank hP hv h4, fun v w hq => ?_⟩
  obtain ⟨rfl, rfl⟩ := hq
  refine ⟨rfl, ?_⟩
  unfold gRK
  split
  · rename_i hok
    obtain ⟨x0, r0, rfl, rfl, q1, q2⟩ := okRk_n hok
    rw [nI_clamp (show x0 < 2 ^ 31 by omega), nI_clamp (show r0 < 2 ^ 31 by omega)]
    exact AP_rec hP hv h4 t1 t2 (PR_rk hP q1) (Vg_rk hv q1 q2)
  · exact hs
theorem a_AL {x : Int32} {ln : Int32} {d : Int32} (h : OBX G a g hn F w0) : zY l G yX6_alley cX6_alley 5 (some .int) 5 110 [.ref a, .int x, .int ln, .int d] w0 (.int (aAl (kA g) x ln d)) (AP G a g hn F (gAl g x ln d)) := by
  refine OBX_go h fun ad q P Pd Ps kp HP t tn T W1 W2 st h0 h1 hP hv h4 t1 t2 hs => ?_
  subst h0 h1
  refine ⟨_, m_X6_alley hP hv h4, fun v w hq => ?_⟩
  obtain ⟨rfl, rfl⟩ := hq
  refine ⟨rfl, ?_⟩
  unfold gAl
  split
  · rename_i hok
    obtain ⟨x0, l0, d0, rfl, rfl, rfl, q1, q2, q3, q4⟩ := okAl_n hok
    have hk12 : kA g < 12 := by have := hv.2.1; omega
    rw [nI_clamp (show x0 < 2 ^ 31 by omega), nI_clamp (show l0 < 2 ^ 31 by omega), nI_clamp (show d0 < 2 ^ 31 by omega)]
    exact AP_rec hP hv h4 t1 t2 (PR_addA hP hv) (Vg_addA hv hk12 q1 q2 q3)
  · exact hs
theorem a_TA {x : Int32} (h : OBX G a g hn F w0) : zY l G yX6_takeAlley cX6_takeAlley 2 (some .int) 5 110 [.ref a, .int x] w0 (.int (aTA g x)) (AP G a g hn F (gTA g x)) := by
  refine OBX_go h fun ad q P Pd Ps kp HP t tn T W1 W2 st h0 h1 hP hv h4 t1 t2 hs => ?_
  subst h0 h1
  refine ⟨_, m_X6_takeAlley hP hv h4, fun v w hq => ?_⟩
  obtain ⟨rfl, rfl⟩ := hq
  refine ⟨rfl, ?_⟩
  unfold gTA
  split
  · rename_i hok
    obtain ⟨i, hi, rfl⟩ := tHas_s (by have := hv.2.1; omega) hok
    rw [nI_clamp (show i < 2 ^ 31 by have := hv.2.1; omega)]
    exact AP_rec hP hv h4 t1 t2 (PR_remA hP hv hi) (Vg_remA hv)
  · exact hs
/-- undo behind an act -/
theorem a_UN {g0 : Nat → Nat} (h : OBX G a g hn (HL g0 hn) w0) : zY l G yX6_undo cX6_undo 1 (some .int) 4 90 [.ref a] w0 (.int (nI (hn - 1))) (OBX G a g0 (hn - 1) HT) := by
  obtain ⟨W, ad, q, P, Pd, Ps, kp, HP, t, tn, T, W1, W2, st, rfl, rfl, hP, hv, h4, t1, t2, hW, hK, h1, hP0, hv0⟩ := h
  refine ⟨_, m_X6_undo h4, fun v w hq => ?_⟩
  obtain ⟨rfl, rfl⟩ := hq
  rw [if_neg (by omega), if_neg (by omega)]
  exact ⟨rfl, _, ad, q, HP (hn - 1), Pd, Ps, kp, HP, t, tn, T, W1, W2, true, rfl, rfl, hP0, hv0, by omega, t1, t2, rfl, WOK_of hv0 W1, trivial⟩
end AC
/-- an answer is below 0 where nothing is recorded, and only there -/
def AS (r : Int32) (o : Option (Nat → Nat)) : Prop := if o = none then r < 0 else ¬ r < 0
theorem AS_n {r : Int32} (h : r < 0) : AS r none := (if_pos rfl).mpr h
theorem AS_s {r : Int32} {g : Nat → Nat} (h : ¬ r < 0) : AS r (some g) := (if_neg (fun q => by cases q)).mpr h
section AZ
variable {g : Nat → Nat}
theorem s_LN (hv : Vg g) {x y ln d : Int32} : AS (aLn (kL g) x y ln d) (gLn g x y ln d) := by
  unfold gLn
  split
  · rename_i hok
    unfold okLn at hok
    rw [Bool.and_eq_true, decide_eq_true_eq] at hok
    unfold aLn
    rw [if_pos hok.1, if_pos hok.2]
    exact AS_s (nI_pos (kb hv).1)
  · rename_i hok
    refine AS_n ?_
    unfold aLn
    split
    · rename_i h1
      have h2 : ¬ refL (kL g) x y ln = 0 := fun q => hok (by unfold okLn; rw [h1, q]; rfl)
      rw [if_neg h2]
      unfold refL at h2 ⊢
      split
      · decide
      · rename_i h3
        rw [if_neg h3] at h2
        split
        · decide
        · rename_i h4
          rw [if_neg h4] at h2
          exact absurd rfl h2
    · decide
theorem s_AL (hv : Vg g) {x ln d : Int32} : AS (aAl (kA g) x ln d) (gAl g x ln d) := by
  unfold gAl
  split
  · rename_i hok
    unfold okAl at hok
    rw [Bool.and_eq_true, decide_eq_true_eq] at hok
    unfold aAl
    rw [if_pos hok.1, if_pos hok.2]
    exact AS_s (nI_pos (kb hv).2)
  · rename_i hok
    refine AS_n ?_
    unfold aAl
    split
    · rename_i h1
      have h2 : ¬ refA (kA g) ln = 0 := fun q => hok (by unfold okAl; rw [h1, q]; rfl)
      rw [if_neg h2]
      unfold refA at h2 ⊢
      split
      · decide
      · rename_i h3
        rw [if_neg h3] at h2
        split
        · decide
        · rename_i h4
          rw [if_neg h4] at h2
          exact absurd rfl h2
    · decide
theorem s_TL (hv : Vg g) {x : Int32} : AS (aTL g x) (gTL g x) := by
  have := kb hv
  unfold gTL aTL
  split
  · exact AS_s (nI_pos (by omega))
  · exact AS_n (by decide)
theorem s_TA (hv : Vg g) {x : Int32} : AS (aTA g x) (gTA g x) := by
  have := kb hv
  unfold gTA aTA
  split
  · exact AS_s (nI_pos (by omega))
  · exact AS_n (by decide)
theorem s_CS (hv : Vg g) {x : Int32} {b : Bool} : AS (aCl g x b) (gCS g x b) := by
  have hk := (kb hv).1
  have hc : ∀ p : Nat → Bool, ¬ nI (cntB p (kL g)) < 0 := fun p => nI_pos (Nat.lt_of_le_of_lt (cntB_le p _) hk)
  by_cases hok : okCl g x b = true
  · rw [show gCS g x b = some _ from if_pos hok]
    unfold aCl
    unfold okCl at hok
    rw [Bool.and_eq_true] at hok
    have h2 : ¬ (!(lnC g x.toNatClampNeg 4 == 0)) = b := by simpa using hok.2
    rw [if_pos hok.1, if_neg h2]
    exact AS_s (hc _)
  · rw [show gCS g x b = none from if_neg hok]
    refine AS_n ?_
    unfold aCl
    split
    · rename_i h1
      split
      · decide
      · rename_i h2
        exact absurd (by unfold okCl; rw [h1, decide_eq_false h2]; rfl) hok
    · decide
theorem s_RK (hv : Vg g) {x r : Int32} : AS (aRk g x r) (gRK g x r) := by
  by_cases hok : okRk g x r = true
  · rw [show gRK g x r = some _ from if_pos hok]
    unfold aRk
    unfold okRk at hok
    simp only [Bool.and_eq_true, Bool.not_eq_true', decide_eq_false_iff_not] at hok
    obtain ⟨h1, h2, h3, h4⟩ := hok
    obtain ⟨x0, hx, rfl⟩ := isC_n h1
    rw [if_pos h1, if_neg (fun q => q.elim h2 h3), if_neg h4, nI_clamp (by omega)]
    have := hv.2.2.1 x0 hx
    exact AS_s (nI_pos (by omega))
  · rw [show gRK g x r = none from if_neg hok]
    refine AS_n ?_
    unfold aRk
    split
    · rename_i h1
      split
      · decide
      · rename_i h2
        split
        · decide
        · rename_i h3
          refine absurd ?_ hok
          unfold okRk
          rw [h1, decide_eq_false (fun q => h2 (Or.inl q)), decide_eq_false (fun q => h2 (Or.inr q)), decide_eq_false h3]
          rfl
    · decide
end AZ
