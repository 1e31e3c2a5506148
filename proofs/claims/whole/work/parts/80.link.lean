/-! CLASS AND REFERENCE ANSWER ALIKE -/
def WOK (g : Nat → Nat) (W : TC) : Prop := (∀ d, d < 5 → W.1 d = dst g d) ∧ W.2.1 = dsV (dst g) ∧ W.2.2.1 = gaV (dst g) ∧ (∀ x al, x < 14 → al < kA g → W.2.2.2.1 (x * 12 + al) = FS g al x ∧ W.2.2.2.2.1 (x * 12 + al) = FR g al x) ∧ W.2.2.2.2.2 = kA g
theorem WOK_of {g : Nat → Nat} (hv : Vg g) (W : TC) : WOK g (wT g W) := by
  have hk := Vk_of hv
  have hD : ∀ d, d < 5 → dstD g W.1 d = dst g d := fun d hd => dstD_d hd
  have hD4 : ∀ d, d < 4 → dstD g W.1 d = dst g d := fun d hd => dstD_d (by omega)
  refine ⟨hD, dsV_c hD4, gaV_c hD4, fun x al hx ha => ?_, rfl⟩
  obtain ⟨a12, a0, a1, a2⟩ := Vk_a hk ha
  obtain ⟨f1, f2⟩ := fin_e hk ha hx
  obtain ⟨c1, c2⟩ := tSg_c (g := g) hD4 (al := al) a2
  constructor
  · show suI W.2.2.2.1 (tSg g (dstD g W.1)) (kA g) (x * 12 + al) = _
    unfold suI
    rw [show (x * 12 + al) % 12 = al by omega, show (x * 12 + al) / 12 = x by omega, if_pos ha, c1, f1]
  · show suI W.2.2.2.2.1 (tRg g (dstD g W.1)) (kA g) (x * 12 + al) = _
    unfold suI
    rw [show (x * 12 + al) % 12 = al by omega, show (x * 12 + al) / 12 = x by omega, if_pos ha, c2, f2]
theorem ds_gd {g : Nat → Nat} (hv : Vk g) {x : Nat} (hx : x < 14) : dsV (dst g) x = bitS (gdB g false x) 4 := bitS_congr fun d hd => (inn_d (Vk_l hv) hd hx).symm
theorem gdN_e {g : Nat → Nat} (hv : Vk g) {x : Nat} (hx : x < 14) : gdN (dsV (dst g)) x = bitS (gdB g true x) 4 := by
  unfold gdN
  rw [bit_d (Vk_l hv) (by decide) hx, ds_gd hv hx, bs_4, bs_4]
  show (if inn g 0 x = true then (if inn g 0 x = true then 1 else 0) + (if inn g 1 x = true then 2 else 0) + (if inn g 2 x = true then 4 else 0) + (if inn g 3 x = true then 8 else 0) - 1 else 0) = (if gateK g 0 x = true then 1 else 0) + (if gateK g 1 x = true then 2 else 0) + (if gateK g 2 x = true then 4 else 0) + (if gateK g 3 x = true then 8 else 0)
  unfold gateK
  cases inn g 0 x <;> cases inn g 1 x <;> cases inn g 2 x <;> cases inn g 3 x <;> rfl
theorem beq_d (a b : Nat) : (a == b) = decide (a = b) := rfl
theorem e_AO {g : Nat → Nat} (hv : Vg g) {W : TC} (hW : WOK g W) {x w : Int32} : aAO g W x w = rAO g x w := by
  unfold aAO rAO
  by_cases h : tHas (nI (kA g)) x = true
  · rw [if_pos h, if_pos h]
    obtain ⟨i, hi, rfl⟩ := tHas_s (by have := hv.2.1; omega) h
    rw [nI_clamp (by have := hv.2.1; omega)]
    have e : cntB (fun y => !(W.2.2.2.2.1 (y * 12 + i) == 0)) 14 = cntB (fun y => !(FR g i y == 0)) 14 := cntB_congr fun y hy => by rw [(hW.2.2.2.1 y i hy hi).2]
    rw [e]
  · rw [if_neg h, if_neg h]
theorem e_CO {g : Nat → Nat} (hv : Vg g) {W : TC} (hW : WOK g W) {x w : Int32} : aCO g W x w = rCO g x w := by
  unfold aCO rCO
  by_cases h : isC x = true
  · rw [if_pos h, if_pos h]
    obtain ⟨i, hi, rfl⟩ := isC_n h
    rw [nI_clamp (by omega), hW.2.1, gdN_e (Vk_of hv) hi, ds_gd (Vk_of hv) hi, hW.2.2.2.2]
    have e4 : cntB (fun al => !(W.2.2.2.2.1 (i * 12 + al) == 0)) (kA g) = tso g false i (kA g) := by
      unfold tso
      rw [show (fun al => if false = true then FS g al i else 1) = (fun _ => 1) from rfl, sumB_1]
      exact cntB_congr fun al hal => by rw [(hW.2.2.2.1 i al hi hal).2]
    have e5 : sumB (fun al => !(W.2.2.2.2.1 (i * 12 + al) == 0)) (fun al => W.2.2.2.1 (i * 12 + al)) (kA g) = tso g true i (kA g) := sumB_congr (fun al hal => by rw [(hW.2.2.2.1 i al hi hal).2]) (fun al hal => by rw [(hW.2.2.2.1 i al hi hal).1]; rfl)
    rw [e4, e5]
  · rw [if_neg h, if_neg h]
theorem e_WI {g : Nat → Nat} {W : TC} (hW : WOK g W) {d x y : Int32} : aWI W d x y = rWI g d x y := by
  unfold aWI rWI
  by_cases h : (isDi d && (isC x && isC y)) = true
  · rw [if_pos h, if_pos h]
    simp only [Bool.and_eq_true] at h
    obtain ⟨d0, hd, rfl⟩ := isDi_n h.1
    rw [nI_clamp (n := d0) (by omega), hW.1 d0 (by omega)]
  · rw [if_neg h, if_neg h]
theorem shS_e {g : Nat → Nat} {W : TC} (hW : WOK g W) {x al : Nat} : shS g W x al = shO g x al := by
  unfold shS shO
  rw [hW.1 4 (by decide)]
theorem e_SH {g : Nat → Nat} {W : TC} (hW : WOK g W) {x al : Int32} : aSH g W x al = rSH g x al := by
  unfold aSH rSH
  rw [shS_e hW]
theorem hsT_e {g : Nat → Nat} {W : TC} (hW : WOK g W) {x al : Nat} (hx : x < 14) (ha : al < kA g) : hsT W x al = !(decide (FR g al x = 0)) := by
  unfold hsT
  rw [(hW.2.2.2.1 x al hx ha).2, beq_d]
theorem e_ST {g : Nat → Nat} (hv : Vg g) {W : TC} (hW : WOK g W) {x al : Int32} : aST g W x al = rST g x al := by
  unfold aST rST
  by_cases h : (isC x && tHas (nI (kA g)) al) = true
  · rw [if_pos h, if_pos h]
    simp only [Bool.and_eq_true] at h
    obtain ⟨i, hi, rfl⟩ := isC_n h.1
    obtain ⟨j, hj, rfl⟩ := tHas_s (by have := hv.2.1; omega) h.2
    rw [nI_clamp (n := i) (by omega), nI_clamp (n := j) (by have := hv.2.1; omega), hsT_e hW hi hj, shS_e hW, (hW.2.2.2.1 i j hi hj).1]
    by_cases h0 : FR g j i = 0
    · rw [if_pos h0, if_neg (by simp [h0])]
    · rw [if_neg h0, if_pos (by simp [h0])]
  · rw [if_neg h, if_neg h]
theorem cnt_j {p : Nat → Nat → Bool} {n : Nat} : ∀ j, j ≤ 14 → cntB (fun k => p (k % 14) (k / 14)) (14 * n + j) = cntB (fun k => p (k % 14) (k / 14)) (14 * n) + cntB (fun x => p x n) j
  | 0, _ => rfl
  | j + 1, h => by
    have ih := cnt_j (p := p) (n := n) j (by omega)
    have e1 : (14 * n + j) % 14 = j := by omega
    have e2 : (14 * n + j) / 14 = n := by omega
    cases hp : p j n with
    | true =>
      rw [cntB_t (p := fun x => p x n) hp]
      show cntB (fun k => p (k % 14) (k / 14)) ((14 * n + j) + 1) = _
      rw [cntB_t (p := fun k => p (k % 14) (k / 14)) (by show p _ _ = true; rw [e1, e2]; exact hp), ih]
      omega
    | false =>
      rw [cntB_f (p := fun x => p x n) hp]
      show cntB (fun k => p (k % 14) (k / 14)) ((14 * n + j) + 1) = _
      rw [cntB_f (p := fun k => p (k % 14) (k / 14)) (by show p _ _ = false; rw [e1, e2]; exact hp), ih]
theorem sum_c {p : Nat → Nat → Bool} {n : Nat} : ∀ m, sumB (fun _ => true) (fun x => cntB (p x) (n + 1)) m = sumB (fun _ => true) (fun x => cntB (p x) n) m + cntB (fun x => p x n) m
  | 0 => rfl
  | m + 1 => by
    have ih := sum_c (p := p) (n := n) m
    rw [sumB_t (p := fun _ => true) rfl, sumB_t (p := fun _ => true) rfl, ih]
    cases hp : p m n with
    | true => rw [cntB_t (p := fun x => p x n) hp, cntB_t (p := p m) hp]; omega
    | false => rw [cntB_f (p := fun x => p x n) hp, cntB_f (p := p m) hp]; omega
theorem sum_0 : ∀ m, sumB (fun _ => true) (fun _ => 0) m = 0
  | 0 => rfl
  | m + 1 => by rw [sumB_t (p := fun _ => true) rfl, sum_0 m]
theorem dbl {p : Nat → Nat → Bool} : ∀ n, cntB (fun k => p (k % 14) (k / 14)) (14 * n) = sumB (fun _ => true) (fun x => cntB (p x) n) 14
  | 0 => (sum_0 14).symm
  | n + 1 => by
    rw [show 14 * (n + 1) = 14 * n + 14 by omega, cnt_j 14 (Nat.le_refl _), dbl n, sum_c]
theorem cnt_and {q : Nat → Bool} {b : Bool} : ∀ k, cntB (fun al => q al && b) k = if b then cntB q k else 0
  | 0 => by cases b <;> rfl
  | k + 1 => by
    have ih := cnt_and (q := q) (b := b) k
    cases b with
    | true => exact cntB_congr fun i _ => Bool.and_true _
    | false =>
      rw [cntB_f (p := fun al => q al && false) (Bool.and_false _), ih]
      rfl
theorem sum_and {p : Nat → Bool} {v : Nat → Nat} : ∀ n, sumB p v n = sumB (fun _ => true) (fun x => if p x then v x else 0) n
  | 0 => rfl
  | n + 1 => by
    rw [sumB_t (p := fun _ => true) rfl, ← sum_and n]
    cases h : p n with
    | true => rw [sumB_t h]; rfl
    | false => rw [sumB_f h]; rfl
theorem cpN_e {g : Nat → Nat} (hv : Vg g) {W : TC} (hW : WOK g W) {c : Nat} : cpN g W c = prN g c (14 * kA g) := by
  unfold cpN prN
  rw [dbl (p := prB g c), sum_and]
  refine sumB_congr (fun _ _ => rfl) (fun x hx => ?_)
  have e : (!(W.2.1 x == 0)) = !(bitS (gdB g false x) 4 == 0) := by rw [hW.2.1, ds_gd (Vk_of hv) hx]
  rw [e]
  have := cnt_and (q := cAs g W c x) (b := !(bitS (gdB g false x) 4 == 0)) (kA g)
  rw [← this]
  refine cntB_congr fun al hal => ?_
  unfold prB prI cAs
  rw [hsT_e hW hx hal, shS_e hW, (hW.2.2.2.1 x al hx hal).1]
theorem e_CT {g : Nat → Nat} (hv : Vg g) {W : TC} (hW : WOK g W) {hn tn : Nat} {w : Int32} : aCT g W hn tn w = rCT g hn tn w := by
  unfold aCT rCT
  rw [cpN_e hv hW, cpN_e hv hW, cpN_e hv hW, cpN_e hv hW]
  have e : cntB (fun x => !(gdN W.2.1 x == 0)) 14 = cntB (fun x => !(bitS (gdB g true x) 4 == 0)) 14 := cntB_congr fun x hx => by rw [hW.2.1, gdN_e (Vk_of hv) hx]
  rw [e]
/-! steps -/
theorem FS_lt {g : Nat → Nat} {al x : Nat} (h : FR g al x ≠ 0) : FS g al x < 1000000 := by
  have k : ∀ s r, stR s r ≠ 0 → stS s < 1000000 := by
    intro s r h
    unfold stR at h
    unfold stS
    split at h
    · rename_i h9; rw [if_pos h9]; exact h9
    · exact absurd rfl h
  unfold FR at h
  unfold FS
  split at h
  · rename_i h9; rw [if_pos h9]; exact k _ _ h
  · rename_i h9; rw [if_neg h9]; exact k _ _ h
theorem lOn_c {D D' : Nat → Nat → Nat → Nat} {d x nx len e : Nat} (h : D d = D' d) : lOn D d x nx len e = lOn D' d x nx len e := by
  unfold lOn
  rw [h]
theorem stp_e {g : Nat → Nat} (hv : Vk g) {W : TC} (hW : WOK g W) {i x nx al : Nat} (hi : i < kL g) (hx : x < 14) (ha : al < kA g) : stpR W.1 W.2.2.1 W.2.2.2.1 W.2.2.2.2.1 g i x nx al = rsp g i x nx al := by
  obtain ⟨h25, x0, x1, x2, l1, l2, l3, l4⟩ := Vk_x hv hi
  obtain ⟨a12, a0, a1, a2⟩ := Vk_a hv ha
  have hl := Vk_l hv
  unfold stpR rsp
  rw [(hW.2.2.2.1 x al hx ha).2]
  have hr3 := FR_le g al x
  by_cases r1 : FR g al x = 1
  · rw [if_pos r1, if_pos r1, lOn_c (hW.1 _ (by omega))]
    by_cases hx9 : x = alC g al 0
    · rw [decide_eq_true hx9]
      have : lOn (dst g) (lnC g i 3) x nx (lnC g i 2) (alC g al 0) = false := by
        unfold lOn
        rw [hx9]
        rw [Bool.and_eq_false_iff]
        cases hin : inn g (lnC g i 3) (alC g al 0) with
        | true => right; rw [dst_in hin]; exact decide_eq_false (by omega)
        | false => left; rw [(dst_out hl l3 a0 a0 hin).1]; rfl
      rw [this]
      simp
    · rw [decide_eq_false hx9]
      simp
  · rw [if_neg r1, if_neg r1]
    by_cases r2 : FR g al x = 2
    · rw [if_pos r2, show decide (0 < FR g al x) = true from decide_eq_true (by omega), Bool.and_true]
      have hlt := FS_lt (g := g) (al := al) (x := x) (by omega)
      by_cases hd : lnC g i 3 = 0
      · rw [decide_eq_true hd, Bool.true_and]
        unfold lVB
        refine anyB_congr fun k hk => ?_
        unfold rsF rst
        rw [if_pos r2, decide_eq_true hd, Bool.true_and, hW.2.2.1, bit_g hl a2 hk, (hW.2.2.2.1 x al hx ha).1, hW.1 0 (by decide), hW.1 _ (show alC g al 2 < 5 by omega), hd, lOn_c (hW.1 0 (by decide))]
        unfold bgN
        cases hg : gateK g (alC g al 2) k with
        | true =>
          rw [if_pos rfl, Bool.true_and, Bool.and_comm]
        | false =>
          rw [if_neg (by decide), show decide (1000000 = FS g al x) = false from decide_eq_false (by omega)]
          rfl
      · rw [decide_eq_false hd, Bool.false_and]
        symm
        rw [Bool.eq_false_iff]
        intro q
        obtain ⟨k, hk, q⟩ := anyB_iff.mp q
        unfold rsF rst at q
        rw [if_pos r2, decide_eq_false hd] at q
        simp at q
    · rw [if_neg r2]
      by_cases r3 : FR g al x = 3
      · rw [if_pos r3, show decide (0 < FR g al x) = true from decide_eq_true (by omega), Bool.and_true]
        have hlt := FS_lt (g := g) (al := al) (x := x) (by omega)
        by_cases hd : lnC g i 3 = 0
        · rw [decide_eq_true hd, Bool.not_true, Bool.false_and]
          symm
          rw [Bool.eq_false_iff]
          intro q
          obtain ⟨k, hk, q⟩ := anyB_iff.mp q
          unfold rsF rst at q
          rw [if_neg r2, hd] at q
          simp at q
        · rw [decide_eq_false hd, Bool.not_false, Bool.true_and]
          unfold lOut
          refine anyB_congr fun k hk => ?_
          unfold rsF rst
          rw [if_neg r2, decide_eq_true (show 0 < lnC g i 3 by omega), Bool.true_and, hW.2.2.1, bit_g hl l3 hk, (hW.2.2.2.1 x al hx ha).1, (hW.2.2.2.1 k al hk ha).1, lOn_c (hW.1 _ (show lnC g i 3 < 5 by omega)), hW.1 _ (show lnC g i 3 < 5 by omega)]
          unfold bdN
          cases hg : gateK g (lnC g i 3) k with
          | true => rw [if_pos rfl, Bool.true_and, Bool.and_comm]
          | false =>
            rw [if_neg (by decide), show decide (1000000 = FS g al x) = false from decide_eq_false (by omega)]
            rfl
      · rw [if_neg r3, show decide (0 < FR g al x) = false from decide_eq_false (by omega), Bool.and_false]
theorem stW_e {g : Nat → Nat} (hv : Vk g) {W : TC} (hW : WOK g W) {i x al : Nat} (hx : x < 14) (ha : al < kA g) : stW g W x al i = sB g x al i := by
  unfold stW stp sB
  cases ho : oeN g i x with
  | none => rfl
  | some nx => exact congrArg (told g i && ·) (stp_e hv hW (oeN_k hv ho).1 hx ha)
theorem sB_o {g : Nat → Nat} (hv : Vk g) {i x al : Nat} (h : sB g x al i = true) : oeN g i x = some (oeD g i x) ∧ oeD g i x < 14 ∧ i < kL g := by
  unfold sB at h
  unfold oeD
  cases ho : oeN g i x with
  | none => rw [ho] at h; cases h
  | some nx => exact ⟨rfl, (oeN_k hv ho).2, (oeN_k hv ho).1⟩
theorem seN_e {g : Nat → Nat} (hv : Vk g) {W : TC} (hW : WOK g W) {x al : Nat} (hx : x < 14) (ha : al < kA g) : ∀ n, seN g W x al n = sfN g x al n
  | 0 => rfl
  | n + 1 => by
    have ih := seN_e hv hW hx ha n
    unfold seN sfN sV
    rw [stW_e hv hW hx ha, ih]
    unfold sB oeD
    cases ho : oeN g n x with
    | none => exact (if_neg (fun q => by cases q)).trans (Nat.or_zero _).symm
    | some nx =>
      show (if (told g n && rsp g n x nx al) = true then _ else _) = sfN g x al n ||| (if (told g n && rsp g n x nx al) = true then 2 ^ nx else 0)
      split
      · rfl
      · rw [Nat.or_zero]
theorem oeN_hi {g : Nat → Nat} {i x : Nat} (h : kL g ≤ i) : oeN g i x = none := if_neg (by omega)
theorem sfN_hi {g : Nat → Nat} {x al : Nat} : ∀ j, sfN g x al (kL g + j) = sfN g x al (kL g)
  | 0 => rfl
  | j + 1 => by
    show sfN g x al (kL g + j) ||| sV g x al (kL g + j) = _
    rw [sfN_hi j]
    unfold sV
    rw [oeN_hi (by omega)]
    exact Nat.or_zero _
theorem bitB_or {a b k : Nat} : bitB (a ||| b) k = (bitB a k || bitB b k) := by
  have e : ∀ s, bitB s k = s.testBit k := fun s => by
    rw [Nat.testBit_eq_decide_div_mod_eq]
    rfl
  rw [e, e, e, Nat.testBit_or]
theorem bitB_p {j k : Nat} : bitB (2 ^ j) k = decide (j = k) := by
  have e : bitB (2 ^ j) k = (2 ^ j).testBit k := by
    rw [Nat.testBit_eq_decide_div_mod_eq]
    rfl
  rw [e, Nat.testBit_two_pow]
theorem bitB_0' {k : Nat} : bitB 0 k = false := by
  unfold bitB
  simp
theorem sfN_bit {g : Nat → Nat} {x al k : Nat} : ∀ n, bitB (sfN g x al n) k = true ↔ ∃ i, i < n ∧ sB g x al i = true ∧ oeD g i x = k
  | 0 => by
    show bitB 0 k = true ↔ _
    rw [bitB_0']
    exact ⟨fun h => (by cases h), fun ⟨i, h, _⟩ => absurd h (Nat.not_lt_zero _)⟩
  | n + 1 => by
    have ih := sfN_bit (g := g) (x := x) (al := al) (k := k) n
    show bitB (sfN g x al n ||| sV g x al n) k = true ↔ _
    rw [bitB_or, Bool.or_eq_true, ih]
    have e : bitB (sV g x al n) k = true ↔ (sB g x al n = true ∧ oeD g n x = k) := by
      unfold sV sB oeD
      cases ho : oeN g n x with
      | none =>
        show bitB 0 k = true ↔ _
        rw [bitB_0']
        exact ⟨fun h => (by cases h), fun h => (by cases h.1)⟩
      | some nx =>
        show bitB (if (told g n && rsp g n x nx al) = true then 2 ^ nx else 0) k = true ↔ ((told g n && rsp g n x nx al) = true ∧ nx = k)
        split
        · rename_i h; rw [bitB_p, decide_eq_true_eq]; exact ⟨fun q => ⟨h, q⟩, fun q => q.2⟩
        · rename_i h; rw [bitB_0']; exact ⟨fun q => (by cases q), fun q => absurd q.1 h⟩
    rw [e]
    constructor
    · rintro (⟨i, h1, h2⟩ | h)
      · exact ⟨i, by omega, h2⟩
      · exact ⟨n, by omega, h⟩
    · rintro ⟨i, h1, h2⟩
      by_cases hi : i = n
      · subst hi; exact Or.inr h2
      · exact Or.inl ⟨i, by omega, h2⟩
theorem lwG_c (s : Nat) : ∀ n, n ≤ 14 → match lwG s n with
    | none => ∀ k, 14 - n ≤ k → k < 14 → bitB s k = false
    | some m => bitB s m = true ∧ m < 14 ∧ ∀ k, 14 - n ≤ k → k < m → bitB s k = false
  | 0, _ => by show ∀ k, 14 - 0 ≤ k → k < 14 → _; intro k h1 h2; omega
  | n + 1, hn => by
    have ih := lwG_c s n (by omega)
    unfold lwG
    cases h : bitB s (13 - n) with
    | true =>
      rw [if_pos rfl]
      exact ⟨h, by omega, fun k h1 h2 => by omega⟩
    | false =>
      rw [if_neg (by decide)]
      cases hl : lwG s n with
      | none =>
        rw [hl] at ih
        intro k h1 h2
        by_cases hk : k = 13 - n
        · rw [hk]; exact h
        · exact ih k (by omega) h2
      | some m =>
        rw [hl] at ih
        refine ⟨ih.1, ih.2.1, fun k h1 h2 => ?_⟩
        by_cases hk : k = 13 - n
        · rw [hk]; exact h
        · exact ih.2.2 k (by omega) h2
theorem fsN_c {g : Nat → Nat} {W : TC} {x al : Nat} : ∀ n, match fsN g W x al n with
    | none => ∀ j, j < n → stW g W x al j = false
    | some b => stW g W x al b = true ∧ b < n ∧ ∀ j, j < n → stW g W x al j = true → oeD g b x ≤ oeD g j x ∧ (oeD g j x = oeD g b x → lnC g b 2 ≤ lnC g j 2)
  | 0 => by show ∀ j, j < 0 → _; intro j h; omega
  | n + 1 => by
    have ih := fsN_c (g := g) (W := W) (x := x) (al := al) n
    unfold fsN
    cases hs : stW g W x al n with
    | false =>
      rw [if_neg (by decide)]
      cases hf : fsN g W x al n with
      | none =>
        rw [hf] at ih
        intro j hj
        by_cases h : j = n
        · rw [h]; exact hs
        · exact ih j (by omega)
      | some b =>
        rw [hf] at ih
        refine ⟨ih.1, by omega, fun j hj h => ?_⟩
        by_cases h9 : j = n
        · rw [h9, hs] at h; cases h
        · exact ih.2.2 j (by omega) h
    | true =>
      rw [if_pos rfl]
      cases hf : fsN g W x al n with
      | none =>
        rw [hf] at ih
        refine ⟨hs, by omega, fun j hj h => ?_⟩
        by_cases h9 : j = n
        · subst h9; exact ⟨Nat.le_refl _, fun _ => Nat.le_refl _⟩
        · rw [ih j (by omega)] at h; cases h
      | some b =>
        rw [hf] at ih
        obtain ⟨i1, i2, i3⟩ := ih
        show match (if erB g x n b = true then some n else some b) with | none => _ | some b => _
        cases he : erB g x n b with
        | true =>
          rw [if_pos rfl]
          have he : oeD g n x < oeD g b x ∨ (oeD g n x = oeD g b x ∧ lnC g n 2 < lnC g b 2) := by
            unfold erB at he
            split at he
            · rename_i q; exact Or.inr ⟨q, by simpa using he⟩
            · exact Or.inl (by simpa using he)
          refine ⟨hs, by omega, fun j hj h => ?_⟩
          by_cases h9 : j = n
          · subst h9; exact ⟨Nat.le_refl _, fun _ => Nat.le_refl _⟩
          · have := i3 j (by omega) h
            omega
        | false =>
          rw [if_neg (by decide)]
          have he : ¬ (oeD g n x < oeD g b x ∨ (oeD g n x = oeD g b x ∧ lnC g n 2 < lnC g b 2)) := by
            unfold erB at he
            split at he
            · rename_i q; have : ¬ lnC g n 2 < lnC g b 2 := by simpa using he
              omega
            · rename_i q; have : ¬ oeD g n x < oeD g b x := by simpa using he
              omega
          refine ⟨i1, by omega, fun j hj h => ?_⟩
          by_cases h9 : j = n
          · subst h9; omega
          · exact i3 j (by omega) h
theorem ssN_c {g : Nat → Nat} {x to al : Nat} : ∀ n, (∀ j, j < n → sC g x to al j = true → ssN g x to al n ≤ lnC g j 2) ∧ (ssN g x to al n = 1000000 ∨ ∃ j, j < n ∧ sC g x to al j = true ∧ ssN g x to al n = lnC g j 2)
  | 0 => ⟨fun j h => by omega, Or.inl rfl⟩
  | n + 1 => by
    obtain ⟨i1, i2⟩ := ssN_c (g := g) (x := x) (to := to) (al := al) n
    have e : ssN g x to al (n + 1) = if (sC g x to al n && decide (lnC g n 2 < ssN g x to al n)) = true then lnC g n 2 else ssN g x to al n := rfl
    rw [e]
    by_cases h : (sC g x to al n && decide (lnC g n 2 < ssN g x to al n)) = true
    · rw [if_pos h]
      simp only [Bool.and_eq_true, decide_eq_true_eq] at h
      refine ⟨fun j hj hs => ?_, Or.inr ⟨n, by omega, h.1, rfl⟩⟩
      by_cases h9 : j = n
      · subst h9; exact Nat.le_refl _
      · have := i1 j (by omega) hs; omega
    · rw [if_neg h]
      refine ⟨fun j hj hs => ?_, ?_⟩
      · by_cases h9 : j = n
        · subst h9
          rw [hs] at h
          simp at h
          exact h
        · exact i1 j (by omega) hs
      · rcases i2 with q | ⟨j, q1, q2⟩
        · exact Or.inl q
        · exact Or.inr ⟨j, by omega, q2⟩
theorem sC_iff {g : Nat → Nat} {x to al j : Nat} : sC g x to al j = true ↔ sB g x al j = true ∧ oeN g j x = some to := by
  unfold sC sB
  cases ho : oeN g j x with
  | none => simp
  | some nx =>
    by_cases h : nx = to
    · subst h; simp
    · simp [h]
/-- the first step of the class and the reference's -/
theorem fst_e {g : Nat → Nat} (hv : Vg g) {W : TC} (hW : WOK g W) {x al : Nat} (hx : x < 14) (ha : al < kA g) : match fsN g W x al 24 with
    | none => lwG (sfN g x al (kL g)) 14 = none
    | some b => lwG (sfN g x al (kL g)) 14 = some (oeD g b x) ∧ oeN g b x = some (oeD g b x) ∧ oeD g b x < 14 ∧ b < kL g ∧ ssN g x (oeD g b x) al (kL g) = lnC g b 2 := by
  have hk := Vk_of hv
  have h24 := hv.1
  have hf := fsN_c (g := g) (W := W) (x := x) (al := al) 24
  have hs := lwG_c (sfN g x al (kL g)) 14 (Nat.le_refl _)
  have hb : ∀ k, bitB (sfN g x al (kL g)) k = true ↔ ∃ i, i < kL g ∧ sB g x al i = true ∧ oeD g i x = k := fun k => sfN_bit _
  have hB : ∀ i, stW g W x al i = sB g x al i := fun i => stW_e hk hW hx ha
  cases h : fsN g W x al 24 with
  | none =>
    rw [h] at hf
    show lwG _ 14 = none
    cases hl : lwG (sfN g x al (kL g)) 14 with
    | none => rfl
    | some m =>
      rw [hl] at hs
      obtain ⟨i, q1, q2, q3⟩ := (hb m).mp hs.1
      have := hf i (by omega)
      rw [hB, q2] at this
      cases this
  | some b =>
    rw [h] at hf
    obtain ⟨f1, f2, f3⟩ := hf
    rw [hB] at f1
    obtain ⟨o1, o2, o3⟩ := sB_o hk f1
    refine ⟨?_, o1, o2, o3, ?_⟩
    · cases hl : lwG (sfN g x al (kL g)) 14 with
      | none =>
        rw [hl] at hs
        have := hs (oeD g b x) (by omega) o2
        rw [(hb _).mpr ⟨b, o3, f1, rfl⟩] at this
        cases this
      | some m =>
        rw [hl] at hs
        obtain ⟨s1, s2, s3⟩ := hs
        obtain ⟨i, q1, q2, q3⟩ := (hb m).mp s1
        have l1 := (f3 i (by omega) (by rw [hB]; exact q2)).1
        have l2 : ¬ oeD g b x < m := fun q => by
          have := s3 _ (by omega) q
          rw [(hb _).mpr ⟨b, o3, f1, rfl⟩] at this
          cases this
        rw [show m = oeD g b x by omega]
    · obtain ⟨c1, c2⟩ := ssN_c (g := g) (x := x) (to := oeD g b x) (al := al) (kL g)
      have l1 := c1 b o3 (sC_iff.mpr ⟨f1, o1⟩)
      obtain ⟨-, -, -, -, -, l20, -⟩ := Vk_x hk o3
      rcases c2 with c2 | ⟨j, q1, q2, q3⟩
      · omega
      · obtain ⟨q4, q5⟩ := sC_iff.mp q2
        have q6 : oeD g j x = oeD g b x := by
          show (oeN g j x).getD 0 = _
          rw [q5]; rfl
        have := (f3 j (by omega) (by rw [hB]; exact q4)).2 q6
        omega
