/-! STEPS -/
theorem stW_sound {g : Nat → Nat} (hv : Vg g) {W : TC} (hW : WOK g W) {x al i : Nat} (hx : x < 14) (ha : al < kA g) (h : stW g W x al i = true) : ∃ z, oeN g i x = some z ∧ told g i = true ∧ ((RR g al x = 1 ∧ lnC g i 3 = aD g al ∧ dst g (aD g al) x (aC g al) < 1000000 ∧ lnC g i 2 + dst g (aD g al) z (aC g al) = dst g (aD g al) x (aC g al)) ∨ (RR g al x = 2 ∧ lnC g i 3 = 0) ∨ (RR g al x = 3 ∧ 0 < lnC g i 3)) := by
  unfold stW stp at h
  have hr : W.2.2.2.2.1 (x * 12 + al) = RR g al x := (hW.2.2.2.1 x al hx ha).2
  cases ho : oeN g i x with
  | none => rw [ho] at h; cases h
  | some z =>
    rw [ho] at h
    have h : (told g i && stpR W.1 W.2.2.1 W.2.2.2.1 W.2.2.2.2.1 g i x z al) = true := h
    rw [Bool.and_eq_true] at h
    obtain ⟨h1, h2⟩ := h
    refine ⟨z, rfl, h1, ?_⟩
    have d4 := (oe_lt hv ho).2.2.2.2.2.2
    unfold stpR at h2
    rw [hr] at h2
    by_cases r1 : RR g al x = 1
    · rw [if_pos r1, Bool.and_eq_true, decide_eq_true_eq] at h2
      obtain ⟨q1, q2⟩ := h2
      unfold lOn at q2
      rw [hW.1 _ (by omega), q1, Bool.and_eq_true, decide_eq_true_eq, decide_eq_true_eq] at q2
      exact Or.inl ⟨r1, q1, q2.1, q2.2⟩
    · rw [if_neg r1] at h2
      by_cases r2 : RR g al x = 2
      · rw [if_pos r2, Bool.and_eq_true, decide_eq_true_eq] at h2
        exact Or.inr (Or.inl ⟨r2, h2.1⟩)
      · rw [if_neg r2] at h2
        by_cases r3 : RR g al x = 3
        · rw [if_pos r3, Bool.and_eq_true] at h2
          have : ¬ lnC g i 3 = 0 := by simpa using h2.1
          exact Or.inr (Or.inr ⟨r3, by omega⟩)
        · rw [if_neg r3] at h2
          cases h2
theorem stW_mk {g : Nat → Nat} {W : TC} {x al i z : Nat} (ho : oeN g i x = some z) (ht : told g i = true) (h : stpR W.1 W.2.2.1 W.2.2.2.1 W.2.2.2.2.1 g i x z al = true) : stW g W x al i = true := by
  unfold stW stp
  rw [ho]
  show (told g i && stpR W.1 W.2.2.1 W.2.2.2.1 W.2.2.2.2.1 g i x z al) = true
  rw [ht, h]
  rfl
theorem lOn_t {D : Nat → Nat → Nat → Nat} {d x z len e : Nat} (h1 : D d x e < 1000000) (h2 : len + D d z e = D d x e) : lOn D d x z len e = true := by
  unfold lOn
  rw [decide_eq_true h1, decide_eq_true h2]
  rfl
theorem stW_ex {g : Nat → Nat} (hv : Vg g) {W : TC} (hW : WOK g W) {x al : Nat} (hx : x < 14) (ha : al < kA g) (h0 : RR g al x ≠ 0) (hn : ¬ (RR g al x = 1 ∧ x = aC g al)) : ∃ i, i < kL g ∧ stW g W x al i = true := by
  obtain ⟨hc14, hl20, hd4⟩ := hv.2.2.2.2 al ha
  have hc14 : aC g al < 14 := hc14
  have hd4 : aD g al < 4 := hd4
  have hr : W.2.2.2.2.1 (x * 12 + al) = RR g al x := (hW.2.2.2.1 x al hx ha).2
  have hs : W.2.2.2.1 (x * 12 + al) = SS g al x := (hW.2.2.2.1 x al hx ha).1
  rcases tot_cases hv ha hx with h | ⟨h | h | h, -, hc⟩
  · exact absurd h.1 h0
  · obtain ⟨r1, r2, r3⟩ := h
    have hne : x ≠ aC g al := fun q => hn ⟨r1, q⟩
    obtain ⟨i, z, t1, t2, t3, t4⟩ := dst_step hv hd4 hx hc14 hne r2
    refine ⟨i, (oe_lt hv t3).1, stW_mk t3 t1 ?_⟩
    unfold stpR
    rw [hr, if_pos r1, decide_eq_true (show lnC g i 3 = alC g al 2 from t2), Bool.true_and]
    have e : W.1 (lnC g i 3) = dst g (aD g al) := by rw [t2]; exact hW.1 _ (by omega)
    exact lOn_t (by rw [e]; exact r2) (by rw [e]; exact t4)
  · obtain ⟨r1, r2, r3, r4, k, k14, k1, k2, k3, k4⟩ := h
    have hne : x ≠ k := fun q => r2 (by rw [q]; exact k3)
    obtain ⟨i, z, t1, t2, t3, t4⟩ := dst_step hv (d := 0) (by decide) hx k14 hne k2
    refine ⟨i, (oe_lt hv t3).1, stW_mk t3 t1 ?_⟩
    unfold stpR
    rw [hr, if_neg (by rw [r1]; decide), if_pos r1, decide_eq_true t2, Bool.true_and]
    unfold lVB
    refine anyB_iff.mpr ⟨k, k14, ?_⟩
    have e0 : W.1 0 = dst g 0 := hW.1 _ (by decide)
    have ed : W.1 (alC g al 2) = dst g (aD g al) := hW.1 _ (by omega)
    rw [hW.2.2.1, hs, lOn_t (by rw [e0]; exact k2) (by rw [e0]; exact t4), e0, ed, Bool.true_and]
    have k1 : bitB (gaV (dst g) (alC g al 2)) k = true := k1
    rw [k1, Bool.true_and]
    exact decide_eq_true k4.symm
  · obtain ⟨r1, r2, r3, e, k, e1, e4, k14, k1, k2, k3, k4⟩ := h
    have hg := ga_bit e4 k14 k1
    have hne : x ≠ k := fun q => r3 (by rw [q]; exact hg.2.1)
    obtain ⟨i, z, t1, t2, t3, t4⟩ := dst_step hv e4 hx k14 hne k2
    refine ⟨i, (oe_lt hv t3).1, stW_mk t3 t1 ?_⟩
    unfold stpR
    rw [hr, if_neg (by rw [r1]; decide), if_neg (by rw [r1]; decide), if_pos r1, t2, decide_eq_false (show ¬ e = 0 by omega), Bool.not_false, Bool.true_and]
    unfold lOut
    refine anyB_iff.mpr ⟨k, k14, ?_⟩
    have ee : W.1 e = dst g e := hW.1 _ (by omega)
    have hsk : W.2.2.2.1 (k * 12 + al) = SS g al k := (hW.2.2.2.1 k al k14 ha).1
    rw [hW.2.2.1, k1, lOn_t (by rw [ee]; exact k2) (by rw [ee]; exact t4), hs, hsk, ee, Bool.true_and, Bool.true_and]
    exact decide_eq_true k3.symm
theorem seN_bit {g : Nat → Nat} {W : TC} {x al k : Nat} : ∀ n, bitB (seN g W x al n) k = true ↔ ∃ i, i < n ∧ stW g W x al i = true ∧ oeD g i x = k
  | 0 => by
    show bitB 0 k = true ↔ _
    rw [bitB_0']
    exact ⟨fun h => (by cases h), fun ⟨i, h, _⟩ => absurd h (Nat.not_lt_zero _)⟩
  | n + 1 => by
    have ih := seN_bit (g := g) (W := W) (x := x) (al := al) (k := k) n
    unfold seN
    split
    · rename_i hs
      rw [bitB_or, Bool.or_eq_true, ih, bitB_p, decide_eq_true_eq]
      constructor
      · rintro (⟨i, h1, h2⟩ | h)
        · exact ⟨i, by omega, h2⟩
        · exact ⟨n, by omega, hs, h⟩
      · rintro ⟨i, h1, h2, h3⟩
        by_cases hi : i = n
        · subst hi
          exact Or.inr h3
        · exact Or.inl ⟨i, by omega, h2, h3⟩
    · rename_i hs
      rw [ih]
      constructor
      · rintro ⟨i, h1, h2⟩
        exact ⟨i, by omega, h2⟩
      · rintro ⟨i, h1, h2, h3⟩
        by_cases hi : i = n
        · subst hi
          exact absurd h2 hs
        · exact ⟨i, by omega, h2, h3⟩
theorem seN_0 {g : Nat → Nat} {W : TC} {x al : Nat} : ∀ n, (∀ i, i < n → stW g W x al i = false) → seN g W x al n = 0
  | 0, _ => rfl
  | n + 1, h => by
    unfold seN
    rw [if_neg (by rw [h n (by omega)]; decide)]
    exact seN_0 n (fun i hi => h i (by omega))
theorem stW_lt {g : Nat → Nat} (hv : Vg g) {W : TC} {x al i : Nat} (h : stW g W x al i = true) : i < 24 := by
  have := (stW_oe hv h).2.2
  have := hv.1
  omega
theorem fsN_c {g : Nat → Nat} {W : TC} {x al : Nat} : ∀ n, match fsN g W x al n with
    | none => ∀ j, j < n → stW g W x al j = false
    | some b => stW g W x al b = true ∧ b < n ∧ ∀ j, j < n → stW g W x al j = true → oeD g b x ≤ oeD g j x ∧ (oeD g j x = oeD g b x → lnC g b 2 ≤ lnC g j 2)
  | 0 => by show ∀ j, j < 0 → _; intro j h; omega
  | n + 1 => by
    have ih := fsN_c (g := g) (W := W) (x := x) (al := al) n
    unfold fsN
    cases hs : stW g W x al n with
    | false =>
      rw [if_neg (by decide)]
      cases hf : fsN g W x al n with
      | none =>
        rw [hf] at ih
        intro j hj
        by_cases h : j = n
        · rw [h]; exact hs
        · exact ih j (by omega)
      | some b =>
        rw [hf] at ih
        refine ⟨ih.1, by omega, fun j hj h => ?_⟩
        by_cases h9 : j = n
        · rw [h9, hs] at h; cases h
        · exact ih.2.2 j (by omega) h
    | true =>
      rw [if_pos rfl]
      cases hf : fsN g W x al n with
      | none =>
        rw [hf] at ih
        refine ⟨hs, by omega, fun j hj h => ?_⟩
        by_cases h9 : j = n
        · subst h9; exact ⟨Nat.le_refl _, fun _ => Nat.le_refl _⟩
        · rw [ih j (by omega)] at h; cases h
      | some b =>
        rw [hf] at ih
        obtain ⟨i1, i2, i3⟩ := ih
        show match (if erB g x n b = true then some n else some b) with | none => _ | some b => _
        cases he : erB g x n b with
        | true =>
          rw [if_pos rfl]
          have he : oeD g n x < oeD g b x ∨ (oeD g n x = oeD g b x ∧ lnC g n 2 < lnC g b 2) := by
            unfold erB at he
            split at he
            · rename_i q; exact Or.inr ⟨q, by simpa using he⟩
            · exact Or.inl (by simpa using he)
          refine ⟨hs, by omega, fun j hj h => ?_⟩
          by_cases h9 : j = n
          · subst h9; exact ⟨Nat.le_refl _, fun _ => Nat.le_refl _⟩
          · have := i3 j (by omega) h
            omega
        | false =>
          rw [if_neg (by decide)]
          have he : ¬ (oeD g n x < oeD g b x ∨ (oeD g n x = oeD g b x ∧ lnC g n 2 < lnC g b 2)) := by
            unfold erB at he
            split at he
            · rename_i q; have : ¬ lnC g n 2 < lnC g b 2 := by simpa using he
              omega
            · rename_i q; have : ¬ oeD g n x < oeD g b x := by simpa using he
              omega
          refine ⟨i1, by omega, fun j hj h => ?_⟩
          by_cases h9 : j = n
          · subst h9; omega
          · exact i3 j (by omega) h
/-- no step from the alley's crossing by 1 -/
theorem stp_at {g : Nat → Nat} (hv : Vg g) {W : TC} (hW : WOK g W) {al i : Nat} (ha : al < kA g) (h1 : RR g al (aC g al) = 1) : stW g W (aC g al) al i = false := by
  cases hs : stW g W (aC g al) al i with
  | false => rfl
  | true =>
    have hc14 : aC g al < 14 := (hv.2.2.2.2 al ha).1
    have hd4 : aD g al < 4 := (hv.2.2.2.2 al ha).2.2
    obtain ⟨z, o, t, h | h | h⟩ := stW_sound hv hW hc14 ha hs
    · obtain ⟨-, -, q1, q2⟩ := h
      have := (dst_self hv hd4 hc14 hc14 q1).1
      have := (oe_lt hv o).2.2.2.2.1
      omega
    · rw [h1] at h; exact absurd h.1 (by decide)
    · rw [h1] at h; exact absurd h.1 (by decide)
/-- the set of steps and the first one -/
theorem steps_c {g : Nat → Nat} (hv : Vg g) {W : TC} (hW : WOK g W) {x al : Nat} (hx : x < 14) (ha : al < kA g) (h0 : RR g al x ≠ 0) : if RR g al x = 1 ∧ x = aC g al then seN g W x al 24 = 0 ∧ fsN g W x al 24 = none else 0 < seN g W x al 24 ∧ ∃ b z, fsN g W x al 24 = some b ∧ stW g W x al b = true ∧ oeN g b x = some z ∧ z < 14 ∧ bitB (seN g W x al 24) z = true ∧ ∀ j, j < z → bitB (seN g W x al 24) j = false := by
  have fc := fsN_c (g := g) (W := W) (x := x) (al := al) 24
  split
  · rename_i h
    have hz : ∀ i, stW g W x al i = false := fun i => by
      rw [h.2]
      exact stp_at hv hW ha (by rw [← h.2]; exact h.1)
    refine ⟨seN_0 24 (fun i _ => hz i), ?_⟩
    cases hf : fsN g W x al 24 with
    | none => rfl
    | some b =>
      rw [hf] at fc
      have f1 : stW g W x al b = true := fc.1
      rw [hz b] at f1
      cases f1
  · rename_i h
    obtain ⟨i, hi, hs⟩ := stW_ex hv hW hx ha h0 h
    have hi24 := stW_lt hv hs
    have hb : bitB (seN g W x al 24) (oeD g i x) = true := (seN_bit 24).mpr ⟨i, hi24, hs, rfl⟩
    refine ⟨Nat.pos_of_ne_zero fun q => ?_, ?_⟩
    · rw [q, bitB_0'] at hb
      cases hb
    · cases hf : fsN g W x al 24 with
      | none =>
        rw [hf] at fc
        rw [fc i hi24] at hs
        cases hs
      | some b =>
        rw [hf] at fc
        obtain ⟨f1, f2, f3⟩ := fc
        obtain ⟨o1, o2, o3⟩ := stW_oe hv f1
        refine ⟨b, oeD g b x, rfl, f1, o1, o2, (seN_bit 24).mpr ⟨b, f2, f1, rfl⟩, fun j hj => ?_⟩
        cases hq : bitB (seN g W x al 24) j with
        | false => rfl
        | true =>
          obtain ⟨k, k1, k2, k3⟩ := (seN_bit 24).mp hq
          have := (f3 k k1 k2).1
          omega
/-- a step is a lane that is told -/
theorem steps_b {g : Nat → Nat} (hv : Vg g) {W : TC} (hW : WOK g W) {x al z : Nat} (hx : x < 14) (ha : al < kA g) (hb : bitB (seN g W x al 24) z = true) : ∃ i, i < kL g ∧ told g i = true ∧ ((lnC g i 0 = x ∧ lnC g i 1 = z) ∨ (lnC g i 1 = x ∧ lnC g i 0 = z)) ∧ ((RR g al x = 1 ∧ lnC g i 3 = aD g al ∧ RR g al z = 1 ∧ SS g al z < SS g al x) ∨ (RR g al x = 2 ∧ lnC g i 3 = 0) ∨ (RR g al x = 3 ∧ 0 < lnC g i 3)) := by
  obtain ⟨i, h1, h2, h3⟩ := (seN_bit 24).mp hb
  obtain ⟨z', o, t, h⟩ := stW_sound hv hW hx ha h2
  have hz : z' = z := by
    have := (stW_oe hv h2).1
    rw [o] at this
    rw [← h3]
    exact Option.some.inj this
  subst hz
  obtain ⟨hi, hj⟩ := oe_s o
  obtain ⟨-, -, z14, -, l1, -, -⟩ := oe_lt hv o
  refine ⟨i, hi, t, hj, ?_⟩
  rcases h with ⟨r1, r2, r3, r4⟩ | h | h
  · rcases tot_cases hv ha z14 with q | ⟨q | q | q, -, -⟩
    · exact absurd (by omega) q.2.1
    · rcases tot_cases hv ha hx with p | ⟨p | p | p, -, -⟩
      · rw [p.1] at r1; cases r1
      · have e1 := q.2.2
        have e2 := p.2.2
        exact Or.inl ⟨r1, r2, q.1, by omega⟩
      · rw [p.1] at r1; cases r1
      · rw [p.1] at r1; cases r1
    · exact absurd (by omega) q.2.1
    · exact absurd (by omega) q.2.1
  · exact Or.inr (Or.inl h)
  · exact Or.inr (Or.inr h)
/-! WALKS -/
theorem dst4_0 {g : Nat → Nat} {x : Nat} : dst g 4 x x = 0 := by
  have h := dF_le (g := g) (p := pL g 4) (e := clV 4) (x := x) (y := x) (j := 0) (i := kL g) (Nat.zero_le _)
  have e : dstF g (pL g 4) (clV 4) 0 x x = 0 := if_pos ⟨rfl, rfl⟩
  have h9 : dst g 4 x x ≤ 0 := Nat.le_trans h (Nat.le_of_eq e)
  omega
theorem ar_iff {g : Nat → Nat} {W : TC} (hW : WOK g W) {x al : Nat} (hx : x < 14) (ha : al < kA g) : arB g W x al = true ↔ RR g al x = 1 ∧ x = aC g al := by
  have hr : W.2.2.2.2.1 (x * 12 + al) = RR g al x := (hW.2.2.2.1 x al hx ha).2
  unfold arB
  rw [hr, Bool.and_eq_true, decide_eq_true_eq, decide_eq_true_eq]
  exact Iff.rfl
theorem wkG_m {g : Nat → Nat} {W : TC} {al k x len ps : Nat} (h : arB g W x al = false) : wkG g W al (k + 1) x len ps = match fsN g W x al 24 with
    | none => none
    | some b => wkG g W al k (oeD g b x) (len + lnC g b 2) (ps ||| 2 ^ x) := by
  show (if arB g W x al then _ else _ : Option (Nat × Nat × Nat)) = _
  rw [h]
  rfl
theorem wk_any {g : Nat → Nat} (hv : Vg g) {W : TC} (hW : WOK g W) {al : Nat} (ha : al < kA g) : ∀ k x len ps n len' ps', x < 14 → k ≤ 31 → wkG g W al k x len ps = some (n, len', ps') → 31 ≤ n + k ∧ n ≤ 30 ∧ len + dst g 4 x (aC g al) ≤ len' ∧ bitB ps' x = true ∧ bitB ps' (aC g al) = true ∧ (∀ j, bitB ps j = true → bitB ps' j = true) ∧ (n + k = 31 → arB g W x al = true)
  | 0, x, len, ps, n, len', ps', hx, hk, h => by cases h
  | k + 1, x, len, ps, n, len', ps', hx, hk, h => by
    have hbx : bitB (ps ||| 2 ^ x) x = true := by rw [bitB_or, bitB_p, decide_eq_true rfl, Bool.or_true]
    have hbm : ∀ j, bitB ps j = true → bitB (ps ||| 2 ^ x) j = true := fun j hj => by rw [bitB_or, hj, Bool.true_or]
    cases har : arB g W x al with
    | true =>
      rw [wkG_a har] at h
      have e := ((ar_iff hW hx ha).mp har).2
      injection h with h
      injection h with h1 h2
      injection h2 with h2 h3
      subst h1 h2 h3
      refine ⟨by omega, by omega, ?_, hbx, by rw [← e]; exact hbx, hbm, fun _ => rfl⟩
      rw [← e, dst4_0]
      exact Nat.le_refl _
    | false =>
      rw [wkG_m har] at h
      have fc := fsN_c (g := g) (W := W) (x := x) (al := al) 24
      cases hf : fsN g W x al 24 with
      | none => rw [hf] at h; cases h
      | some b =>
        rw [hf] at h fc
        have h : wkG g W al k (oeD g b x) (len + lnC g b 2) (ps ||| 2 ^ x) = some (n, len', ps') := h
        obtain ⟨f1, f2, f3⟩ := fc
        obtain ⟨o1, o2, o3⟩ := stW_oe hv f1
        obtain ⟨z, o, t, -⟩ := stW_sound hv hW hx ha f1
        have hc14 : aC g al < 14 := (hv.2.2.2.2 al ha).1
        have hvia := dst_via hv hc14 (pL_4 t) o1
        obtain ⟨q1, q2, q3, q4, q5, q6, q7⟩ := wk_any hv hW ha k (oeD g b x) (len + lnC g b 2) (ps ||| 2 ^ x) n len' ps' o2 (by omega) h
        exact ⟨by omega, q2, by omega, q6 x hbx, q5, fun j hj => q6 j (hbm j hj), fun q => by omega⟩
theorem cntB_m {p q : Nat → Bool} : ∀ n, (∀ i, i < n → p i = true → q i = true) → cntB p n ≤ cntB q n
  | 0, _ => Nat.le_refl _
  | n + 1, h => by
    have ih := cntB_m n (fun i hi => h i (by omega))
    have := h n (by omega)
    unfold cntB
    cases hp : p n with
    | false => rw [if_neg (by decide)]; omega
    | true => rw [this hp, if_pos rfl]; omega
theorem cntB_lt {p q : Nat → Bool} {j : Nat} : ∀ n, j < n → (∀ i, i < n → p i = true → q i = true) → p j = false → q j = true → cntB p n < cntB q n
  | 0, h, _, _, _ => absurd h (Nat.not_lt_zero _)
  | n + 1, hj, h, h1, h2 => by
    by_cases hn : j = n
    · subst hn
      have := cntB_m j (fun i hi => h i (by omega))
      unfold cntB
      rw [h1, h2, if_neg (by decide), if_pos rfl]
      omega
    · have ih := cntB_lt n (by omega) (fun i hi => h i (by omega)) h1 h2
      have := h n (by omega)
      unfold cntB
      cases hp : p n with
      | false => rw [if_neg (by decide)]; omega
      | true => rw [this hp, if_pos rfl]; omega
theorem wk_1 {g : Nat → Nat} (hv : Vg g) {W : TC} (hW : WOK g W) {al : Nat} (ha : al < kA g) : ∀ k x len ps, x < 14 → RR g al x = 1 → cntB (fun z => decide (dst g (aD g al) z (aC g al) < dst g (aD g al) x (aC g al))) 14 < k → ∃ n ps', wkG g W al k x len ps = some (n, len + dst g (aD g al) x (aC g al), ps')
  | 0, x, len, ps, hx, h1, hm => absurd hm (Nat.not_lt_zero _)
  | k + 1, x, len, ps, hx, h1, hm => by
    have hc14 : aC g al < 14 := (hv.2.2.2.2 al ha).1
    have hd4 : aD g al < 4 := (hv.2.2.2.2 al ha).2.2
    have sc := steps_c hv hW hx ha (by rw [h1]; decide)
    by_cases hc : x = aC g al
    · have har := (ar_iff hW hx ha).mpr ⟨h1, hc⟩
      rw [wkG_a har]
      have e0 : dst g (aD g al) x (aC g al) = 0 := by
        rcases tot_cases hv ha hx with q | ⟨-, -, q⟩
        · rw [q.1] at h1; cases h1
        · rw [hc]; exact q
      rw [e0]
      exact ⟨_, _, rfl⟩
    · rw [if_neg (fun q => hc q.2)] at sc
      obtain ⟨-, b, z, s1, s2, s3, s4, s5, -⟩ := sc
      have har : arB g W x al = false := by
        cases q : arB g W x al with
        | false => rfl
        | true => exact absurd ((ar_iff hW hx ha).mp q).2 hc
      have ez : oeD g b x = z := by
        have := (stW_oe hv s2).1
        rw [s3] at this
        exact (Option.some.inj this).symm
      obtain ⟨z', o, t, h⟩ := stW_sound hv hW hx ha s2
      have : z' = z := by rw [s3] at o; exact (Option.some.inj o).symm
      subst this
      have l1 := (oe_lt hv o).2.2.2.2.1
      rcases h with ⟨-, r2, r3, r4⟩ | h | h
      · obtain ⟨i, -, -, -, hb⟩ := steps_b hv hW hx ha s5
        have hz1 : RR g al z' = 1 := by
          rcases hb with q | q | q
          · exact q.2.2.1
          · rw [h1] at q; exact absurd q.1 (by decide)
          · rw [h1] at q; exact absurd q.1 (by decide)
        have hlt : cntB (fun w => decide (dst g (aD g al) w (aC g al) < dst g (aD g al) z' (aC g al))) 14 < cntB (fun w => decide (dst g (aD g al) w (aC g al) < dst g (aD g al) x (aC g al))) 14 := by
          refine cntB_lt (j := z') 14 s4 (fun i _ hi => ?_) (decide_eq_false (Nat.lt_irrefl _)) (decide_eq_true (by omega))
          have : dst g (aD g al) i (aC g al) < dst g (aD g al) z' (aC g al) := of_decide_eq_true hi
          exact decide_eq_true (by omega)
        obtain ⟨n, ps', hw⟩ := wk_1 hv hW ha k z' (len + lnC g b 2) (ps ||| 2 ^ x) s4 hz1 (by omega)
        refine ⟨n, ps', ?_⟩
        rw [wkG_m har, s1]
        show wkG g W al k (oeD g b x) _ _ = _
        rw [ez, hw, ← r4]
        rw [Nat.add_assoc]
      · rw [h1] at h; exact absurd h.1 (by decide)
      · rw [h1] at h; exact absurd h.1 (by decide)
