/-! AN OBJECT, BY WHAT IT TELLS -/
def OB (G : GG) (a : Nat) (g : Nat → Nat) (hn : Nat) (F : (Nat → PC) → Prop) (W : TC) (w : va_W) : Prop := ∃ (ad q : Nat → Nat → Nat) (P Pd Ps : PC) (kp : Bool) (HP : Nat → PC) (t : Nat → Nat) (tn : Nat) (T : T7) (W1 W2 : TC) (st : Bool), ad 0 0 = a ∧ w = cls G ad q P Pd Ps kp HP hn t tn T W1 W2 st ∧ PR g P ∧ Vg g ∧ hn ≤ 4 ∧ TBT W1 ∧ TBT W2 ∧ wK g st W1 = W ∧ WOK g W ∧ F HP
theorem OB_rec {G : GG} {a : Nat} {g : Nat → Nat} {hn : Nat} {F : (Nat → PC) → Prop} {W : TC} {w : va_W} (h : OB G a g hn F W w) : ∃ (fs : List Value) (k0 : Nat), w[k0]? = some (a, .inr (6, fs)) := by
  obtain ⟨ad, q, P, Pd, Ps, kp, HP, t, tn, T, W1, W2, st, rfl, rfl, -⟩ := h
  exact ⟨_, 0, rfl⟩
theorem OB_v {G : GG} {a : Nat} {g : Nat → Nat} {hn : Nat} {F : (Nat → PC) → Prop} {W : TC} {w : va_W} (h : OB G a g hn F W w) : Vg g ∧ hn ≤ 4 ∧ WOK g W := by
  obtain ⟨ad, q, P, Pd, Ps, kp, HP, t, tn, T, W1, W2, st, rfl, rfl, hP, hv, h4, t1, t2, hW, hK, hF⟩ := h
  exact ⟨hv, h4, hK⟩
theorem wK_2 {g : Nat → Nat} {st : Bool} {W : TC} : wK g false (wK g st W) = wK g st W := rfl
theorem tHas_t {n k : Nat} (h : k < n) (hn : n < 2 ^ 31) : tHas (nI n) (nI k) = true := by
  rw [tHas_n (by omega) hn]
  exact decide_eq_true h
theorem isC_t {x : Nat} (h : x < 14) : isC (nI x) = true := by
  unfold isC
  rw [decide_eq_false (nI_pos (by omega)), decide_eq_false (show ¬ (14 : Int32) ≤ nI x from nI_ge (b := 14) h (by decide))]
  rfl
theorem isDi_t {x : Nat} (h : x < 4) : isDi (nI x) = true := by
  unfold isDi
  rw [decide_eq_false (nI_pos (by omega)), decide_eq_false (show ¬ (4 : Int32) ≤ nI x from nI_ge (b := 4) h (by decide))]
  rfl
theorem kb {g : Nat → Nat} (hv : Vg g) : kL g < 2 ^ 31 ∧ kA g < 2 ^ 31 := by
  have := hv.1
  have := hv.2.1
  omega
theorem nor {c m : Nat} (h : c ≤ m) (hm : m < 2 ^ 31) : ¬ (nI c < 0 ∨ nI m < nI c) := fun q => q.elim (nI_pos (by omega)) (nI_nlt h hm)
theorem nor6 {c : Nat} (h : c ≤ 6) : ¬ (nI c < 0 ∨ (6 : Int32) < nI c) := nor (m := 6) h (by decide)
theorem nor3 {c : Nat} (h : c ≤ 3) : ¬ (nI c < 0 ∨ (3 : Int32) < nI c) := nor (m := 3) h (by decide)
theorem nor2 {c : Nat} (h : c ≤ 2) : ¬ (nI c < 0 ∨ (2 : Int32) < nI c) := nor (m := 2) h (by decide)
theorem nek {c m : Nat} (h : c < m) (hm : m < 2 ^ 31) : ¬ nI c = nI m := fun q => by
  have := (nI_eq (by omega) hm).mp q
  omega
section QV
variable {g : Nat → Nat} {W : TC}
theorem v_LO (hv : Vg g) {k c : Nat} (hk : k < kL g) (hc : c < 5) : aLO g (nI k) (nI c) = nI (lnC g k c) := by
  have h := (kb hv).1
  unfold aLO
  rw [tHas_t hk h, if_pos rfl, if_neg (nor6 (by omega)), if_neg (show ¬ nI c = 5 from nek (m := 5) (by omega) (by decide)), if_neg (show ¬ nI c = 6 from nek (m := 6) (by omega) (by decide)), nI_clamp (by omega), nI_clamp (by omega)]
theorem v_LO5 (hv : Vg g) {k : Nat} (hk : k < kL g) : aLO g (nI k) 5 = clkI g k := by
  have h := (kb hv).1
  unfold aLO
  rw [tHas_t hk h, if_pos rfl, if_neg (by decide), if_pos rfl, nI_clamp (by omega)]
theorem v_LO6 (hv : Vg g) {k : Nat} (hk : k < kL g) : aLO g (nI k) 6 = bI (told g k) := by
  have h := (kb hv).1
  unfold aLO
  rw [tHas_t hk h, if_pos rfl, if_neg (by decide), if_neg (by decide), if_pos rfl, nI_clamp (by omega)]
theorem v_AO (hv : Vg g) {k c : Nat} (hk : k < kA g) (hc : c < 3) : aAO g W (nI k) (nI c) = nI (alC g k c) := by
  have h := (kb hv).2
  unfold aAO
  rw [tHas_t hk h, if_pos rfl, if_neg (nor3 (by omega)), if_neg (show ¬ nI c = 3 from nek (m := 3) (by omega) (by decide)), nI_clamp (by omega), nI_clamp (by omega)]
theorem v_AO3 (hv : Vg g) (hW : WOK g W) {k : Nat} (hk : k < kA g) : aAO g W (nI k) 3 = nI (cntB (fun y => !(RR g k y == 0)) 14) := by
  have h := (kb hv).2
  unfold aAO
  rw [tHas_t hk h, if_pos rfl, if_neg (by decide), if_pos rfl, nI_clamp (by omega)]
  congr 1
  exact cntB_congr fun y hy => by rw [(hW.2.2.2.1 y k hy hk).2]; rfl
theorem v_CO0 {x : Nat} (hx : x < 14) : aCO g W (nI x) 0 = nI (g x) := by
  unfold aCO
  rw [isC_t hx, if_pos rfl, if_pos rfl, nI_clamp (by omega)]
theorem v_CO1 (hW : WOK g W) {x : Nat} (hx : x < 14) : aCO g W (nI x) 1 = nI (dsV (dst g) x) := by
  unfold aCO
  rw [isC_t hx, if_pos rfl, if_neg (by decide), if_pos rfl, nI_clamp (by omega), hW.2.1]
theorem v_CO2 (hW : WOK g W) {x : Nat} (hx : x < 14) : aCO g W (nI x) 2 = nI (gdN (dsV (dst g)) x) := by
  unfold aCO
  rw [isC_t hx, if_pos rfl, if_neg (by decide), if_neg (by decide), if_pos rfl, nI_clamp (by omega), hW.2.1]
theorem v_CO3 {x : Nat} (hx : x < 14) : aCO g W (nI x) 3 = nI (cntB (fun i => hasCk g i && ck g i == x) (kL g)) := by
  unfold aCO
  rw [isC_t hx, if_pos rfl, if_neg (by decide), if_neg (by decide), if_neg (by decide), if_pos rfl, nI_clamp (by omega)]
theorem v_WI (hW : WOK g W) {d x y : Nat} (hd : d < 4) (hx : x < 14) (hy : y < 14) : aWI W (nI d) (nI x) (nI y) = nFar (dst g d x y) := by
  unfold aWI
  rw [isDi_t hd, isC_t hx, isC_t hy]
  show nFar (W.1 (nI d).toNatClampNeg (nI x).toNatClampNeg (nI y).toNatClampNeg) = _
  rw [nI_clamp (by omega), nI_clamp (by omega), nI_clamp (by omega), hW.1 d (by omega)]
theorem v_SH (hv : Vg g) (hW : WOK g W) {x al : Nat} (hx : x < 14) (ha : al < kA g) : aSH g W (nI x) (nI al) = nFar (dst g 4 x (aC g al) + aL g al) := by
  have h := (kb hv).2
  unfold aSH
  rw [isC_t hx, tHas_t ha h]
  show nFar (shS g W (nI x).toNatClampNeg (nI al).toNatClampNeg) = _
  rw [nI_clamp (by omega), nI_clamp (by omega)]
  unfold shS
  rw [hW.1 4 (by omega)]
  rfl
theorem hs_e (hW : WOK g W) {x al : Nat} (hx : x < 14) (ha : al < kA g) : hsT W x al = !(RR g al x == 0) := by
  unfold hsT
  rw [(hW.2.2.2.1 x al hx ha).2]
  rfl
theorem v_TOn (hv : Vg g) (hW : WOK g W) {x al c : Nat} (hx : x < 14) (ha : al < kA g) (hc : c < 4) (h0 : RR g al x = 0) : aTO g W (nI x) (nI al) (nI c) = -5 := by
  have h := (kb hv).2
  unfold aTO
  rw [isC_t hx, tHas_t ha h, Bool.and_self, if_pos rfl, if_neg (nor3 (by omega)), nI_clamp (by omega), nI_clamp (by omega), hs_e hW hx ha, h0]
  rfl
theorem v_TO0 (hv : Vg g) (hW : WOK g W) {x al : Nat} (hx : x < 14) (ha : al < kA g) (h0 : RR g al x ≠ 0) : aTO g W (nI x) (nI al) 0 = nI (SS g al x) := by
  have h := (kb hv).2
  unfold aTO
  rw [isC_t hx, tHas_t ha h, Bool.and_self, if_pos rfl, if_neg (by decide), nI_clamp (by omega), nI_clamp (by omega), hs_e hW hx ha, if_pos (by simp [h0]), if_pos rfl, (hW.2.2.2.1 x al hx ha).1]
  rfl
theorem v_TO1 (hv : Vg g) (hW : WOK g W) {x al : Nat} (hx : x < 14) (ha : al < kA g) (h0 : RR g al x ≠ 0) : aTO g W (nI x) (nI al) 1 = nI (RR g al x) := by
  have h := (kb hv).2
  unfold aTO
  rw [isC_t hx, tHas_t ha h, Bool.and_self, if_pos rfl, if_neg (by decide), nI_clamp (by omega), nI_clamp (by omega), hs_e hW hx ha, if_pos (by simp [h0]), if_neg (by decide), if_pos rfl, (hW.2.2.2.1 x al hx ha).2]
  rfl
theorem v_TO2 (hv : Vg g) (hW : WOK g W) {x al : Nat} (hx : x < 14) (ha : al < kA g) (h0 : RR g al x ≠ 0) : aTO g W (nI x) (nI al) 2 = optI ((fsN g W x al 24).bind (fun b => oeN g b x)) := by
  have h := (kb hv).2
  unfold aTO
  rw [isC_t hx, tHas_t ha h, Bool.and_self, if_pos rfl, if_neg (by decide), nI_clamp (by omega), nI_clamp (by omega), hs_e hW hx ha, if_pos (by simp [h0]), if_neg (by decide), if_neg (by decide), if_pos rfl]
theorem v_TO3 (hv : Vg g) (hW : WOK g W) {x al : Nat} (hx : x < 14) (ha : al < kA g) (h0 : RR g al x ≠ 0) : aTO g W (nI x) (nI al) 3 = nI (seN g W x al 24) := by
  have h := (kb hv).2
  unfold aTO
  rw [isC_t hx, tHas_t ha h, Bool.and_self, if_pos rfl, if_neg (by decide), nI_clamp (by omega), nI_clamp (by omega), hs_e hW hx ha, if_pos (by simp [h0]), if_neg (by decide), if_neg (by decide), if_neg (by decide)]
theorem v_WK (hv : Vg g) {x al c : Nat} (hx : x < 14) (ha : al < kA g) (hc : c < 3) : aWK g W (nI x) (nI al) (nI c) = aWKx g W x al (nI c) := by
  have h := (kb hv).2
  unfold aWK
  rw [isC_t hx, tHas_t ha h]
  show (if nI c < 0 ∨ 2 < nI c then -2 else aWKx g W (nI x).toNatClampNeg (nI al).toNatClampNeg (nI c)) = _
  rw [if_neg (nor2 (by omega)), nI_clamp (by omega), nI_clamp (by omega)]
theorem wk_none (hW : WOK g W) {x al : Nat} (hx : x < 14) (ha : al < kA g) (h0 : RR g al x = 0) (k len ps : Nat) : wkG g W al k x len ps = none := by
  cases k with
  | zero => rfl
  | succ k =>
    have har : arB g W x al = false := by
      cases q : arB g W x al with
      | false => rfl
      | true => have := ((ar_iff hW hx ha).mp q).1; omega
    rw [wkG_m har]
    have hz : ∀ i, stW g W x al i = false := fun i => by
      unfold stW stp
      cases oeN g i x with
      | none => rfl
      | some z =>
        show (told g i && stpR W.1 W.2.2.1 W.2.2.2.1 W.2.2.2.2.1 g i x z al) = false
        unfold stpR
        rw [(hW.2.2.2.1 x al hx ha).2, show tRg g (dst g) al x = 0 from h0]
        exact Bool.and_false _
    have fc := fsN_c (g := g) (W := W) (x := x) (al := al) 24
    cases hf : fsN g W x al 24 with
    | none => rfl
    | some b =>
      rw [hf] at fc
      have f1 : stW g W x al b = true := fc.1
      rw [hz b] at f1
      cases f1
theorem v_STn (hv : Vg g) (hW : WOK g W) {x al : Nat} (hx : x < 14) (ha : al < kA g) (h0 : RR g al x = 0) : aST g W (nI x) (nI al) = 3212836864 := by
  have h := (kb hv).2
  unfold aST
  rw [isC_t hx, tHas_t ha h, nI_clamp (by omega), nI_clamp (by omega), hs_e hW hx ha, h0]
  rfl
/-- the quotient is not below 1 -/
theorem v_STs (hv : Vg g) (hW : WOK g W) {x al : Nat} (hx : x < 14) (ha : al < kA g) (h0 : RR g al x ≠ 0) : ¬ Op.cmpValue (FP.fcmp (aST g W (nI x) (nI al)) FP.fconst1) .l < 0 := by
  have h := (kb hv).2
  have hs : W.2.2.2.1 (x * 12 + al) = SS g al x := (hW.2.2.2.1 x al hx ha).1
  have hsh : shS g W x al = dst g 4 x (aC g al) + aL g al := by
    unfold shS
    rw [hW.1 4 (by omega)]
    rfl
  unfold aST
  rw [isC_t hx, tHas_t ha h, Bool.and_self, if_pos rfl, nI_clamp (by omega), nI_clamp (by omega), hs_e hW hx ha, hs, hsh, if_pos (by simp [h0])]
  split
  · exact cmp_one
  · rename_i hb
    have h1 := (tot_sh hv ha hx).resolve_right h0
    have h2 := (tot_S hv ha hx).mpr h0
    exact cmp_ge (fdiv_ge hb h1 (by omega))
theorem v_CT0 {hn tn : Nat} : aCT g W hn tn 0 = nI (kL g) := if_pos rfl
theorem v_CT1 {hn tn : Nat} : aCT g W hn tn 1 = nI (cntB (told g) (kL g)) := by
  unfold aCT
  rw [if_neg (by decide), if_pos rfl]
theorem v_CT2 {hn tn : Nat} : aCT g W hn tn 2 = nI (kA g) := by
  unfold aCT
  rw [if_neg (by decide), if_neg (by decide), if_pos rfl]
theorem v_CT3 {hn tn : Nat} (hW : WOK g W) : aCT g W hn tn 3 = nI (cntB (fun x => !(gdN (dsV (dst g)) x == 0)) 14) := by
  unfold aCT
  rw [if_neg (by decide), if_neg (by decide), if_neg (by decide), if_pos rfl, hW.2.1]
theorem v_CT8 {hn tn : Nat} : aCT g W hn tn 8 = nI hn := by
  unfold aCT
  rw [if_neg (by decide), if_neg (by decide), if_neg (by decide), if_neg (by decide), if_neg (by decide), if_neg (by decide), if_neg (by decide), if_neg (by decide), if_pos rfl]
theorem v_ICn (hv : Vg g) {k c : Nat} (hk : k < kL g) (hc : c < 3) (ht : told g k = false) : aIC g W (nI k) (nI c) = 0 := by
  have h := (kb hv).1
  unfold aIC
  rw [tHas_t hk h, if_pos rfl, if_neg (nor2 (by omega)), nI_clamp (by omega), ht]
  rfl
theorem v_IC0 (hv : Vg g) {k : Nat} (hk : k < kL g) (ht : told g k = true) : aIC g W (nI k) 0 = nI (cF (kA g) 0 W.2.2.2.1 (tSg g (wD g W k))) := by
  have h := (kb hv).1
  unfold aIC
  rw [tHas_t hk h, if_pos rfl, if_neg (by decide), nI_clamp (by omega), ht, if_pos rfl]
  rfl
end QV
section QC
variable {l : Launch} {G : GG} {a : Nat} {g : Nat → Nat} {hn : Nat} {F : (Nat → PC) → Prop} {W : TC} {w0 : va_W}
theorem q_LO {x y : Int32} (h : OB G a g hn F W w0) : zY l G yX6_laneOf cX6_laneOf 3 (some .int) 4 89 [.ref a, .int x, .int y] w0 (.int (aLO g x y)) (OB G a g hn F W) := by
  obtain ⟨ad, q, P, Pd, Ps, kp, HP, t, tn, T, W1, W2, st, rfl, rfl, hP, hv, h4, t1, t2, hW, hK, hF⟩ := h
  refine ⟨_, m_X6_laneOf hP hv, fun v w hq => ?_⟩
  obtain ⟨rfl, rfl⟩ := hq
  exact ⟨rfl, ad, q, P, Pd, Ps, kp, HP, t, tn, T, W1, W2, st, rfl, rfl, hP, hv, h4, t1, t2, hW, hK, hF⟩
theorem q_AO {x y : Int32} (h : OB G a g hn F W w0) : zY l G yX6_alleyOf cX6_alleyOf 3 (some .int) 7 163 [.ref a, .int x, .int y] w0 (.int (aAO g W x y)) (OB G a g hn F W) := by
  obtain ⟨ad, q, P, Pd, Ps, kp, HP, t, tn, T, W1, W2, st, rfl, rfl, hP, hv, h4, t1, t2, hW, hK, hF⟩ := h
  refine ⟨_, m_X6_alleyOf hP hv t1, fun v w hq => ?_⟩
  obtain ⟨rfl, rfl⟩ := hq
  refine ⟨by rw [hW], ?_⟩
  split
  · exact ⟨ad, q, P, Pd, Ps, kp, HP, t, tn, T, _, W2, false, rfl, rfl, hP, hv, h4, wK_TBT hv t1, t2, hW, hK, hF⟩
  · exact ⟨ad, q, P, Pd, Ps, kp, HP, t, tn, T, W1, W2, st, rfl, rfl, hP, hv, h4, t1, t2, hW, hK, hF⟩
theorem q_CO {x y : Int32} (h : OB G a g hn F W w0) : zY l G yX6_crossingOf cX6_crossingOf 3 (some .int) 7 163 [.ref a, .int x, .int y] w0 (.int (aCO g W x y)) (OB G a g hn F W) := by
  obtain ⟨ad, q, P, Pd, Ps, kp, HP, t, tn, T, W1, W2, st, rfl, rfl, hP, hv, h4, t1, t2, hW, hK, hF⟩ := h
  refine ⟨_, m_X6_crossingOf hP hv t1, fun v w hq => ?_⟩
  obtain ⟨rfl, rfl⟩ := hq
  refine ⟨by rw [hW], ?_⟩
  split
  · exact ⟨ad, q, P, Pd, Ps, kp, HP, t, tn, T, _, W2, false, rfl, rfl, hP, hv, h4, wK_TBT hv t1, t2, hW, hK, hF⟩
  · exact ⟨ad, q, P, Pd, Ps, kp, HP, t, tn, T, W1, W2, st, rfl, rfl, hP, hv, h4, t1, t2, hW, hK, hF⟩
theorem q_WI {d x y : Int32} (h : OB G a g hn F W w0) : zY l G yX6_within cX6_within 4 (some .int) 7 163 [.ref a, .int d, .int x, .int y] w0 (.int (aWI W d x y)) (OB G a g hn F W) := by
  obtain ⟨ad, q, P, Pd, Ps, kp, HP, t, tn, T, W1, W2, st, rfl, rfl, hP, hv, h4, t1, t2, hW, hK, hF⟩ := h
  refine ⟨_, m_X6_within hP hv t1, fun v w hq => ?_⟩
  obtain ⟨rfl, rfl⟩ := hq
  refine ⟨by rw [hW], ?_⟩
  split
  · exact ⟨ad, q, P, Pd, Ps, kp, HP, t, tn, T, _, W2, false, rfl, rfl, hP, hv, h4, wK_TBT hv t1, t2, hW, hK, hF⟩
  · exact ⟨ad, q, P, Pd, Ps, kp, HP, t, tn, T, W1, W2, st, rfl, rfl, hP, hv, h4, t1, t2, hW, hK, hF⟩
theorem q_TO {x al y : Int32} (h : OB G a g hn F W w0) : zY l G yX6_total cX6_total 4 (some .int) 7 163 [.ref a, .int x, .int al, .int y] w0 (.int (aTO g W x al y)) (OB G a g hn F W) := by
  obtain ⟨ad, q, P, Pd, Ps, kp, HP, t, tn, T, W1, W2, st, rfl, rfl, hP, hv, h4, t1, t2, hW, hK, hF⟩ := h
  refine ⟨_, m_X6_total hP hv t1, fun v w hq => ?_⟩
  obtain ⟨rfl, rfl⟩ := hq
  refine ⟨by rw [hW], ?_⟩
  split
  · exact ⟨ad, q, P, Pd, Ps, kp, HP, t, tn, T, _, W2, false, rfl, rfl, hP, hv, h4, wK_TBT hv t1, t2, hW, hK, hF⟩
  · exact ⟨ad, q, P, Pd, Ps, kp, HP, t, tn, T, W1, W2, st, rfl, rfl, hP, hv, h4, t1, t2, hW, hK, hF⟩
theorem q_WK {x al y : Int32} (h : OB G a g hn F W w0) : zY l G yX6_walk cX6_walk 9 (some .int) 7 163 [.ref a, .int x, .int al, .int y] w0 (.int (aWK g W x al y)) (OB G a g hn F W) := by
  obtain ⟨ad, q, P, Pd, Ps, kp, HP, t, tn, T, W1, W2, st, rfl, rfl, hP, hv, h4, t1, t2, hW, hK, hF⟩ := h
  refine ⟨_, m_X6_walk hP hv t1, fun v w hq => ?_⟩
  obtain ⟨rfl, rfl⟩ := hq
  refine ⟨by rw [hW], ?_⟩
  split
  · exact ⟨ad, q, P, Pd, Ps, kp, HP, t, tn, T, _, W2, false, rfl, rfl, hP, hv, h4, wK_TBT hv t1, t2, hW, hK, hF⟩
  · exact ⟨ad, q, P, Pd, Ps, kp, HP, t, tn, T, W1, W2, st, rfl, rfl, hP, hv, h4, t1, t2, hW, hK, hF⟩
theorem q_SH {x al : Int32} (h : OB G a g hn F W w0) : zY l G yX6_shortest cX6_shortest 3 (some .int) 7 163 [.ref a, .int x, .int al] w0 (.int (aSH g W x al)) (OB G a g hn F W) := by
  obtain ⟨ad, q, P, Pd, Ps, kp, HP, t, tn, T, W1, W2, st, rfl, rfl, hP, hv, h4, t1, t2, hW, hK, hF⟩ := h
  refine ⟨_, m_X6_shortest hP hv t1, fun v w hq => ?_⟩
  obtain ⟨rfl, rfl⟩ := hq
  refine ⟨by rw [hW], ?_⟩
  split
  · exact ⟨ad, q, P, Pd, Ps, kp, HP, t, tn, T, _, W2, false, rfl, rfl, hP, hv, h4, wK_TBT hv t1, t2, hW, hK, hF⟩
  · exact ⟨ad, q, P, Pd, Ps, kp, HP, t, tn, T, W1, W2, st, rfl, rfl, hP, hv, h4, t1, t2, hW, hK, hF⟩
theorem q_ST {x al : Int32} (h : OB G a g hn F W w0) : zY l G yX6_stretch cX6_stretch 4 (some .float) 7 163 [.ref a, .int x, .int al] w0 (.float (aST g W x al)) (OB G a g hn F W) := by
  obtain ⟨ad, q, P, Pd, Ps, kp, HP, t, tn, T, W1, W2, st, rfl, rfl, hP, hv, h4, t1, t2, hW, hK, hF⟩ := h
  refine ⟨_, m_X6_stretch hP hv t1, fun v w hq => ?_⟩
  obtain ⟨rfl, rfl⟩ := hq
  refine ⟨by rw [hW], ?_⟩
  split
  · exact ⟨ad, q, P, Pd, Ps, kp, HP, t, tn, T, _, W2, false, rfl, rfl, hP, hv, h4, wK_TBT hv t1, t2, hW, hK, hF⟩
  · exact ⟨ad, q, P, Pd, Ps, kp, HP, t, tn, T, W1, W2, st, rfl, rfl, hP, hv, h4, t1, t2, hW, hK, hF⟩
theorem q_IC {x y : Int32} (h : OB G a g hn F W w0) : zY l G yX6_ifClosed cX6_ifClosed 3 (some .int) 7 163 [.ref a, .int x, .int y] w0 (.int (aIC g W x y)) (OB G a g hn F W) := by
  obtain ⟨ad, q, P, Pd, Ps, kp, HP, t, tn, T, W1, W2, st, rfl, rfl, hP, hv, h4, t1, t2, hW, hK, hF⟩ := h
  refine ⟨_, m_X6_ifClosed hP hv t1 t2, fun v w hq => ?_⟩
  obtain ⟨rfl, W9, t9, rfl⟩ := hq
  refine ⟨by rw [hW], ?_⟩
  split
  · exact ⟨ad, q, P, Pd, Ps, kp, HP, t, tn, T, _, W9, false, rfl, rfl, hP, hv, h4, wK_TBT hv t1, t9, hW, hK, hF⟩
  · exact ⟨ad, q, P, Pd, Ps, kp, HP, t, tn, T, W1, W9, st, rfl, rfl, hP, hv, h4, t1, t9, hW, hK, hF⟩
theorem q_CT {x r : Int32} (h : OB G a g hn F W w0) (ans : ∀ tn, aCT g W hn tn x = r) : zY l G yX6_count cX6_count 2 (some .int) 7 163 [.ref a, .int x] w0 (.int (r)) (OB G a g hn F W) := by
  obtain ⟨ad, q, P, Pd, Ps, kp, HP, t, tn, T, W1, W2, st, rfl, rfl, hP, hv, h4, t1, t2, hW, hK, hF⟩ := h
  refine ⟨_, m_X6_count hP hv t1, fun v w hq => ?_⟩
  obtain ⟨rfl, rfl⟩ := hq
  rw [hW]
  have ans := ans tn
  refine ⟨by rw [ans], ?_⟩
  split
  · exact ⟨ad, q, P, Pd, Ps, kp, HP, t, tn, T, _, W2, false, rfl, rfl, hP, hv, h4, by rw [← hW]; exact wK_TBT hv t1, t2, rfl, hK, hF⟩
  · exact ⟨ad, q, P, Pd, Ps, kp, HP, t, tn, T, W1, W2, st, rfl, rfl, hP, hv, h4, t1, t2, hW, hK, hF⟩
end QC
