/-! WAYS: a first step, the least of all districts -/
theorem dF_lip {g : Nat → Nat} {p : Nat → Bool} {e : Nat → Nat → Nat} {h : Nat → Nat} (he : ∀ x y, x < 14 → y < 14 → h x ≤ e x y + h y) : ∀ {n : Nat}, lok g n → (∀ i, i < n → p i = true → h (lnC g i 0) ≤ lnC g i 2 + h (lnC g i 1) ∧ h (lnC g i 1) ≤ lnC g i 2 + h (lnC g i 0)) → ∀ x y, x < 14 → y < 14 → h x ≤ dstF g p e n x y + h y
  | 0, _, _, x, y, hx, hy => he x y hx hy
  | i + 1, hl, hc, x, y, hx, hy => by
    have ih := dF_lip he (n := i) (lok_le hl (Nat.le_succ i)) (fun j hj => hc j (by omega))
    obtain ⟨ha, hb, -⟩ := hl i (by omega)
    unfold dstF
    split
    · rename_i hp
      obtain ⟨c1, c2⟩ := hc i (by omega) hp
      have hz : ∀ u v, u < 14 → v < 14 → h u ≤ dz (dstF g p e i) (lnC g i 0) (lnC g i 1) u v + h v := fun u v hu hv => by
        unfold dz
        split
        · rename_i q
          rw [q.1]
          omega
        · exact ih u v hu hv
      obtain ⟨-, -, -, q⟩ := jnN_c (dstF g p e i) (lnC g i 0) (lnC g i 1) (lnC g i 2) x y
      have h1 := hz x y hx hy
      have h2 := hz x _ hx ha
      have h3 := hz _ y hb hy
      have h4 := hz x _ hx hb
      have h5 := hz _ y ha hy
      rcases q with q | q | q <;> rw [q] <;> omega
    · exact ih x y hx hy
theorem oe_s {g : Nat → Nat} {i x z : Nat} (h : oeN g i x = some z) : i < kL g ∧ ((lnC g i 0 = x ∧ lnC g i 1 = z) ∨ (lnC g i 1 = x ∧ lnC g i 0 = z)) := by
  unfold oeN at h
  split at h
  · split at h
    · cases h
      exact ⟨by assumption, Or.inl ⟨by assumption, rfl⟩⟩
    · split at h
      · cases h
        exact ⟨by assumption, Or.inr ⟨by assumption, rfl⟩⟩
      · cases h
  · cases h
theorem oe_0 {g : Nat → Nat} {i : Nat} (hi : i < kL g) : oeN g i (lnC g i 0) = some (lnC g i 1) := by
  unfold oeN
  rw [if_pos hi, if_pos rfl]
theorem oe_1 {g : Nat → Nat} {i : Nat} (hi : i < kL g) (hne : lnC g i 0 ≠ lnC g i 1) : oeN g i (lnC g i 1) = some (lnC g i 0) := by
  unfold oeN
  rw [if_pos hi, if_neg hne, if_pos rfl]
theorem oe_lt {g : Nat → Nat} (hv : Vg g) {i x z : Nat} (h : oeN g i x = some z) : i < kL g ∧ x < 14 ∧ z < 14 ∧ x ≠ z ∧ 1 ≤ lnC g i 2 ∧ lnC g i 2 ≤ 20 ∧ lnC g i 3 < 4 := by
  obtain ⟨hi, h⟩ := oe_s h
  obtain ⟨a, b, c, d, e, f, -⟩ := hv.2.2.2.1 i hi
  rcases h with ⟨rfl, rfl⟩ | ⟨rfl, rfl⟩
  · exact ⟨hi, a, b, c, d, e, f⟩
  · exact ⟨hi, b, a, fun q => c q.symm, d, e, f⟩
theorem dst_ln {g : Nat → Nat} (hv : Vg g) {d i x z : Nat} (hp : pL g d i = true) (h : oeN g i x = some z) : dst g d x z ≤ lnC g i 2 := by
  obtain ⟨hi, h⟩ := oe_s h
  obtain ⟨a, b, -⟩ := dF_ln (g := g) (e := clV d) hi hp
  rcases h with ⟨rfl, rfl⟩ | ⟨rfl, rfl⟩
  · exact a
  · exact b
theorem dst_via {g : Nat → Nat} (hv : Vg g) {d i x z y : Nat} (hy : y < 14) (hp : pL g d i = true) (h : oeN g i x = some z) : dst g d x y ≤ lnC g i 2 + dst g d z y := by
  obtain ⟨-, hx, hz, -⟩ := oe_lt hv h
  have h1 := dst_ln hv hp h
  have h2 := (dst_MD (Vg_l hv) d x y z hx hy hz).2.2
  omega
theorem dst_le {g : Nat → Nat} (hv : Vg g) {d x y : Nat} (hx : x < 14) (hy : y < 14) : dst g d x y ≤ 1000000 := (dst_MD (Vg_l hv) d x y x hx hy hx).1
theorem dst_sym {g : Nat → Nat} (hv : Vg g) {d x y : Nat} (hx : x < 14) (hy : y < 14) : dst g d x y = dst g d y x := (dst_MD (Vg_l hv) d x y x hx hy hx).2.1
/-- who has a way to somewhere has one to itself -/
theorem dst_self {g : Nat → Nat} (hv : Vg g) {d x y : Nat} (hd : d < 4) (hx : x < 14) (hy : y < 14) (h : dst g d x y < 1000000) : dst g d x x = 0 ∧ dst g d y y = 0 := by
  have e1 : inn g d x = true := by
    cases h9 : inn g d x with
    | true => rfl
    | false => have := (dst_out (Vg_l hv) hd hx hy h9).1; omega
  have e2 : inn g d y = true := by
    cases h9 : inn g d y with
    | true => rfl
    | false => have := (dst_out (Vg_l hv) hd hy hx h9).2; omega
  exact ⟨dst_in e1, dst_in e2⟩
theorem pL_d {g : Nat → Nat} {d i : Nat} (ht : told g i = true) (h : lnC g i 3 = d) : pL g d i = true := pL_t.mpr ⟨ht, Or.inr h⟩
theorem pL_4 {g : Nat → Nat} {i : Nat} (ht : told g i = true) : pL g 4 i = true := pL_t.mpr ⟨ht, Or.inl rfl⟩
/-- a way begins with a lane -/
theorem dst_step {g : Nat → Nat} (hv : Vg g) {d x y : Nat} (hd : d < 4) (hx : x < 14) (hy : y < 14) (hxy : x ≠ y) (h : dst g d x y < 1000000) : ∃ i z, told g i = true ∧ lnC g i 3 = d ∧ oeN g i x = some z ∧ lnC g i 2 + dst g d z y = dst g d x y := by
  refine Classical.byContradiction fun hn => ?_
  have hs : ∀ i z, told g i = true → lnC g i 3 = d → oeN g i x = some z → dst g d x y + 1 ≤ lnC g i 2 + dst g d z y := by
    intro i z h1 h2 h3
    have h4 := dst_via hv hy (pL_d h1 h2) h3
    have h5 : lnC g i 2 + dst g d z y ≠ dst g d x y := fun q => hn ⟨i, z, h1, h2, h3, q⟩
    omega
  have hd4 : d ≠ 4 := by omega
  have key := dF_lip (g := g) (p := pL g d) (e := clV d) (h := fun u => if u = x then dst g d x y + 1 else dst g d u y) (fun u v hu hv' => by
    have e : clV d u v = 1000000 := if_neg (fun q => hd4 q.1)
    have := dst_le hv (d := d) hu hy
    show (if u = x then dst g d x y + 1 else dst g d u y) ≤ clV d u v + _
    rw [e]
    split <;> omega) (n := kL g) (Vg_l hv) (fun i hi hp => by
    obtain ⟨a, b, c, -⟩ := hv.2.2.2.1 i hi
    have o0 := oe_0 hi
    have o1 := oe_1 hi c
    have v0 := dst_via hv hy hp o0
    have v1 := dst_via hv hy hp o1
    obtain ⟨ht, hp3⟩ := pL_t.mp hp
    have hp3 : lnC g i 3 = d := hp3.resolve_left hd4
    show (if lnC g i 0 = x then dst g d x y + 1 else dst g d (lnC g i 0) y) ≤ lnC g i 2 + (if lnC g i 1 = x then dst g d x y + 1 else dst g d (lnC g i 1) y) ∧ (if lnC g i 1 = x then dst g d x y + 1 else dst g d (lnC g i 1) y) ≤ lnC g i 2 + (if lnC g i 0 = x then dst g d x y + 1 else dst g d (lnC g i 0) y)
    by_cases h0 : lnC g i 0 = x
    · have h1 : ¬ lnC g i 1 = x := fun q => c (h0.trans q.symm)
      rw [if_pos h0, if_neg h1]
      rw [h0] at o0 v1
      have := hs i _ ht hp3 o0
      exact ⟨this, by omega⟩
    · by_cases h1 : lnC g i 1 = x
      · rw [if_neg h0, if_pos h1]
        rw [h1] at o1 v0
        have := hs i _ ht hp3 o1
        exact ⟨by omega, this⟩
      · rw [if_neg h0, if_neg h1]
        exact ⟨v0, v1⟩) x y hx hy
  have key : (if x = x then dst g d x y + 1 else dst g d x y) ≤ dst g d x y + (if y = x then dst g d x y + 1 else dst g d y y) := key
  rw [if_pos rfl, if_neg (fun q => hxy q.symm), (dst_self hv hd hx hy h).2] at key
  omega
theorem dst_pos {g : Nat → Nat} (hv : Vg g) {d x y : Nat} (hd : d < 4) (hx : x < 14) (hy : y < 14) (hxy : x ≠ y) : 0 < dst g d x y := by
  by_cases h : dst g d x y < 1000000
  · obtain ⟨i, z, -, -, h3, h4⟩ := dst_step hv hd hx hy hxy h
    obtain ⟨-, -, -, -, h1, -⟩ := oe_lt hv h3
    omega
  · omega
/-- all lanes together are no longer than those of a district -/
theorem dst4_le {g : Nat → Nat} (hv : Vg g) {d x y : Nat} (hd : d < 4) (hx : x < 14) (hy : y < 14) : dst g 4 x y ≤ dst g d x y := by
  refine dF_low (g := g) (p := pL g d) (e := clV d) (h := dst g 4) (fun x y z hx hy hz => (dst_MD (Vg_l hv) 4 x y z hx hy hz).2.2) (fun x y hx hy => ?_) (n := kL g) (Vg_l hv) (fun i hi hp => ?_) x y hx hy
  · have e : clV d x y = 1000000 := if_neg (fun q => by omega)
    rw [e]
    exact dst_le hv hx hy
  · exact dF_ln (g := g) (e := clV 4) hi (pL_4 (pL_t.mp hp).1)
theorem dst4_tri {g : Nat → Nat} (hv : Vg g) {x y z : Nat} (hx : x < 14) (hy : y < 14) (hz : z < 14) : dst g 4 x y ≤ dst g 4 x z + dst g 4 z y := (dst_MD (Vg_l hv) 4 x y z hx hy hz).2.2
theorem bitB_or {a b k : Nat} : bitB (a ||| b) k = (bitB a k || bitB b k) := by
  have e : ∀ s, bitB s k = s.testBit k := fun s => by
    rw [Nat.testBit_eq_decide_div_mod_eq]
    rfl
  rw [e, e, e, Nat.testBit_or]
theorem bitB_p {j k : Nat} : bitB (2 ^ j) k = decide (j = k) := by
  have e : bitB (2 ^ j) k = (2 ^ j).testBit k := by
    rw [Nat.testBit_eq_decide_div_mod_eq]
    rfl
  rw [e, Nat.testBit_two_pow]
theorem bitB_0' {k : Nat} : bitB 0 k = false := by
  unfold bitB
  simp
/-! TOTALS -/
theorem minA_c {acc : Nat} {p : Nat → Bool} {v : Nat → Nat} : ∀ n, minA acc p v n = acc ∨ ∃ k, k < n ∧ p k = true ∧ minA acc p v n = v k
  | 0 => Or.inl rfl
  | n + 1 => by
    have ih := minA_c (acc := acc) (p := p) (v := v) n
    cases hp : p n with
    | false =>
      rw [minA_f hp]
      rcases ih with h | ⟨k, h1, h2, h3⟩
      · exact Or.inl h
      · exact Or.inr ⟨k, by omega, h2, h3⟩
    | true =>
      rw [minA_t hp]
      by_cases h9 : v n ≤ minA acc p v n
      · exact Or.inr ⟨n, by omega, hp, Nat.min_eq_right h9⟩
      · rw [Nat.min_eq_left (by omega)]
        rcases ih with h | ⟨k, h1, h2, h3⟩
        · exact Or.inl h
        · exact Or.inr ⟨k, by omega, h2, h3⟩
theorem lBN_x {D : Nat → Nat → Nat → Nat} {di ga N : Nat → Nat} {x : Nat} : ∀ m, lBN D di ga N x m = 1000000 ∨ ∃ e k, 1 ≤ e ∧ e ≤ m ∧ bitB (di x) e = true ∧ k < 14 ∧ bitB (ga e) k = true ∧ lBN D di ga N x m = D e x k + N k
  | 0 => Or.inl rfl
  | m + 1 => by
    have ih := lBN_x (D := D) (di := di) (ga := ga) (N := N) (x := x) m
    have ih' : lBN D di ga N x m = 1000000 ∨ ∃ e k, 1 ≤ e ∧ e ≤ m + 1 ∧ bitB (di x) e = true ∧ k < 14 ∧ bitB (ga e) k = true ∧ lBN D di ga N x m = D e x k + N k := by
      rcases ih with h | ⟨e, k, h1, h2, h3⟩
      · exact Or.inl h
      · exact Or.inr ⟨e, k, h1, by omega, h3⟩
    unfold lBN
    split
    · rename_i hb
      rcases minA_c (acc := lBN D di ga N x m) (p := fun k => bitB (ga (m + 1)) k) (v := fun k => D (m + 1) x k + N k) 14 with h | ⟨k, h1, h2, h3⟩
      · rw [h]; exact ih'
      · exact Or.inr ⟨m + 1, k, by omega, Nat.le_refl _, hb, h1, h2, h3⟩
    · exact ih'
theorem ga_bit {D : Nat → Nat → Nat → Nat} {e k : Nat} (he : e < 4) (hk : k < 14) (h : bitB (gaV D e) k = true) : 1 ≤ e ∧ D 0 k k = 0 ∧ D e k k = 0 := by
  by_cases h0 : e = 0
  · subst h0
    rw [gaV_0] at h
    cases h
  · rw [gaV_bit hk (by omega) he, Bool.and_eq_true] at h
    exact ⟨by omega, by simpa using h.1, by simpa using h.2⟩
def SS (g : Nat → Nat) (al x : Nat) : Nat := tSg g (dst g) al x
def RR (g : Nat → Nat) (al x : Nat) : Nat := tRg g (dst g) al x
def aC (g : Nat → Nat) (al : Nat) : Nat := alC g al 0
def aL (g : Nat → Nat) (al : Nat) : Nat := alC g al 1
def aD (g : Nat → Nat) (al : Nat) : Nat := alC g al 2
def tot0 (g : Nat → Nat) (al x : Nat) : Prop := RR g al x = 0 ∧ ¬ dst g (aD g al) x (aC g al) < 1000000 ∧ ¬ SS g al x < 1000000
def tot1 (g : Nat → Nat) (al x : Nat) : Prop := RR g al x = 1 ∧ dst g (aD g al) x (aC g al) < 1000000 ∧ SS g al x = dst g (aD g al) x (aC g al) + aL g al
def tot2 (g : Nat → Nat) (al x : Nat) : Prop := RR g al x = 2 ∧ ¬ dst g (aD g al) x (aC g al) < 1000000 ∧ 1 ≤ aD g al ∧ dst g 0 x x = 0 ∧ ∃ k, k < 14 ∧ bitB (gaV (dst g) (aD g al)) k = true ∧ dst g 0 x k < 1000000 ∧ dst g (aD g al) k (aC g al) < 1000000 ∧ SS g al x = dst g 0 x k + dst g (aD g al) k (aC g al) + aL g al
def tot3 (g : Nat → Nat) (al x : Nat) : Prop := RR g al x = 3 ∧ ¬ dst g (aD g al) x (aC g al) < 1000000 ∧ dst g 0 x x ≠ 0 ∧ ∃ e k, 1 ≤ e ∧ e < 4 ∧ k < 14 ∧ bitB (gaV (dst g) e) k = true ∧ dst g e x k < 1000000 ∧ SS g al x = dst g e x k + SS g al k ∧ (tot1 g al k ∨ tot2 g al k)
theorem stS_lt {s : Nat} (h : s < 1000000) : stS s = s := if_pos h
theorem stS_ge {s : Nat} (h : ¬ s < 1000000) : stS s = 1000000 := if_neg h
theorem stR_lt {s r : Nat} (h : s < 1000000) : stR s r = r := if_pos h
theorem stR_ge {s r : Nat} (h : ¬ s < 1000000) : stR s r = 0 := if_neg h
theorem ds_bit {g : Nat → Nat} {x d : Nat} (hd : d < 4) : bitB (dsV (dst g) x) d = true ↔ dst g d x x = 0 := by
  rw [dsV_bit hd]
  simp
theorem ds_bitf {g : Nat → Nat} {x d : Nat} (hd : d < 4) : bitB (dsV (dst g) x) d = false ↔ dst g d x x ≠ 0 := by
  rw [dsV_bit hd]
  simp
/-- by 1 or 2, of an alley whose crossing is in its district -/
theorem np_cases {g : Nat → Nat} (hv : Vg g) {al x : Nat} (ha : al < kA g) (hx : x < 14) (hc : dst g (aD g al) (aC g al) (aC g al) = 0) :
    (npR (dst g) (dsV (dst g)) (gaV (dst g)) (aC g al) (aL g al) (aD g al) x = 0 ∧ npS (dst g) (dsV (dst g)) (gaV (dst g)) (aC g al) (aL g al) (aD g al) x = 1000000 ∧ ¬ dst g (aD g al) x (aC g al) < 1000000) ∨ (npR (dst g) (dsV (dst g)) (gaV (dst g)) (aC g al) (aL g al) (aD g al) x ≠ 0 ∧ npS (dst g) (dsV (dst g)) (gaV (dst g)) (aC g al) (aL g al) (aD g al) x ≤ 655380 ∧ SS g al x = npS (dst g) (dsV (dst g)) (gaV (dst g)) (aC g al) (aL g al) (aD g al) x ∧ (tot1 g al x ∨ tot2 g al x)) := by
  obtain ⟨hc14, hl20, hd4⟩ := hv.2.2.2.2 al ha
  have hc14 : aC g al < 14 := hc14
  have hl20 : aL g al ≤ 20 := hl20
  have hd4 : aD g al < 4 := hd4
  have hcb : bitB (dsV (dst g) (aC g al)) (aD g al) = true := (ds_bit hd4).mpr hc
  have eS : SS g al x = fpS (dst g) (dsV (dst g)) (gaV (dst g)) (aC g al) (aL g al) (aD g al) x := if_pos hcb
  have eR : RR g al x = fpR (dst g) (dsV (dst g)) (gaV (dst g)) (aC g al) (aL g al) (aD g al) x := if_pos hcb
  have fin : ∀ r s, npR (dst g) (dsV (dst g)) (gaV (dst g)) (aC g al) (aL g al) (aD g al) x = r → npS (dst g) (dsV (dst g)) (gaV (dst g)) (aC g al) (aL g al) (aD g al) x = s → r ≠ 0 → RR g al x = r ∧ SS g al x = s := by
    intro r s h1 h2 h3
    unfold fpS at eS
    unfold fpR at eR
    rw [if_neg (by rw [h1]; exact fun q => h3 q.2)] at eS eR
    exact ⟨eR.trans h1, eS.trans h2⟩
  by_cases h1 : dst g (aD g al) x (aC g al) < 1000000
  · have hb := dst_big (Vg_l hv) (by omega) hx hc14 h1
    have r1 : npR (dst g) (dsV (dst g)) (gaV (dst g)) (aC g al) (aL g al) (aD g al) x = 1 := by
      unfold npR
      rw [if_pos h1, stR_lt (by omega)]
    have s1 : npS (dst g) (dsV (dst g)) (gaV (dst g)) (aC g al) (aL g al) (aD g al) x = dst g (aD g al) x (aC g al) + aL g al := by
      unfold npS
      rw [if_pos h1, stS_lt (by omega)]
    obtain ⟨f1, f2⟩ := fin _ _ r1 s1 (by decide)
    exact Or.inr ⟨by rw [r1]; decide, by omega, by rw [f2, s1], Or.inl ⟨f1, h1, f2⟩⟩
  · by_cases h0 : dst g 0 x x = 0
    · have hb0 : bitB (dsV (dst g) x) 0 = true := (ds_bit (by decide)).mpr h0
      have er : npR (dst g) (dsV (dst g)) (gaV (dst g)) (aC g al) (aL g al) (aD g al) x = stR (lOB (dst g) (gaV (dst g)) x (aD g al) (aC g al) + aL g al) 2 := by
        unfold npR
        rw [if_neg h1, if_pos hb0]
      have es : npS (dst g) (dsV (dst g)) (gaV (dst g)) (aC g al) (aL g al) (aD g al) x = stS (lOB (dst g) (gaV (dst g)) x (aD g al) (aC g al) + aL g al) := by
        unfold npS
        rw [if_neg h1, if_pos hb0]
      by_cases h2 : lOB (dst g) (gaV (dst g)) x (aD g al) (aC g al) + aL g al < 1000000
      · rw [stR_lt h2] at er
        rw [stS_lt h2] at es
        obtain ⟨f1, f2⟩ := fin _ _ er es (by decide)
        rcases minA_c (acc := 1000000) (p := fun k => bitB (gaV (dst g) (aD g al)) k) (v := fun k => dst g 0 x k + dst g (aD g al) k (aC g al)) 14 with h | ⟨k, k1, k2, k3⟩
        · have : lOB (dst g) (gaV (dst g)) x (aD g al) (aC g al) = 1000000 := h
          omega
        · have k3 : lOB (dst g) (gaV (dst g)) x (aD g al) (aC g al) = dst g 0 x k + dst g (aD g al) k (aC g al) := k3
          have b0 := dst_big (Vg_l hv) (d := 0) (by decide) hx k1 (by omega)
          have b1 := dst_big (Vg_l hv) (d := aD g al) (by omega) k1 hc14 (by omega)
          exact Or.inr ⟨by rw [er]; decide, by omega, by rw [f2, es], Or.inr ⟨f1, h1, (ga_bit hd4 k1 k2).1, h0, k, k1, k2, by omega, by omega, by omega⟩⟩
      · rw [stR_ge h2] at er
        rw [stS_ge h2] at es
        exact Or.inl ⟨er, es, h1⟩
    · have hb0 : ¬ bitB (dsV (dst g) x) 0 = true := fun q => h0 ((ds_bit (by decide)).mp q)
      refine Or.inl ⟨?_, ?_, h1⟩
      · unfold npR
        rw [if_neg h1, if_neg hb0]
      · unfold npS
        rw [if_neg h1, if_neg hb0]
theorem tot_cases {g : Nat → Nat} (hv : Vg g) {al x : Nat} (ha : al < kA g) (hx : x < 14) : tot0 g al x ∨ ((tot1 g al x ∨ tot2 g al x ∨ tot3 g al x) ∧ SS g al x ≤ 983060 ∧ dst g (aD g al) (aC g al) (aC g al) = 0) := by
  obtain ⟨hc14, hl20, hd4⟩ := hv.2.2.2.2 al ha
  have hc14 : aC g al < 14 := hc14
  have hd4 : aD g al < 4 := hd4
  by_cases hc : dst g (aD g al) (aC g al) (aC g al) = 0
  · have hcb : bitB (dsV (dst g) (aC g al)) (aD g al) = true := (ds_bit hd4).mpr hc
    rcases np_cases hv ha hx hc with ⟨n1, n2, n3⟩ | ⟨n1, n2, n3, n4⟩
    · have eS : SS g al x = fpS (dst g) (dsV (dst g)) (gaV (dst g)) (aC g al) (aL g al) (aD g al) x := if_pos hcb
      have eR : RR g al x = fpR (dst g) (dsV (dst g)) (gaV (dst g)) (aC g al) (aL g al) (aD g al) x := if_pos hcb
      unfold fpS at eS
      unfold fpR at eR
      by_cases h0 : dst g 0 x x = 0
      · have hb0 : ¬ bitB (dsV (dst g) x) 0 = false := fun q => (ds_bitf (by decide)).mp q h0
        rw [if_neg (fun q => hb0 q.1), n1] at eR
        rw [if_neg (fun q => hb0 q.1), n2] at eS
        exact Or.inl ⟨eR, n3, by omega⟩
      · have hb0 : bitB (dsV (dst g) x) 0 = false := (ds_bitf (by decide)).mpr h0
        rw [if_pos ⟨hb0, n1⟩] at eR eS
        rcases lBN_x (D := dst g) (di := dsV (dst g)) (ga := gaV (dst g)) (N := npS (dst g) (dsV (dst g)) (gaV (dst g)) (aC g al) (aL g al) (aD g al)) (x := x) 3 with h | ⟨e, k, e1, e3, hbe, k1, k2, k3⟩
        · rw [h] at eR eS
          rw [stR_ge (by decide)] at eR
          rw [stS_ge (by decide)] at eS
          exact Or.inl ⟨eR, n3, by omega⟩
        · by_cases h2 : lBN (dst g) (dsV (dst g)) (gaV (dst g)) (npS (dst g) (dsV (dst g)) (gaV (dst g)) (aC g al) (aL g al) (aD g al)) x 3 < 1000000
          · rw [stR_lt h2] at eR
            rw [stS_lt h2] at eS
            rcases np_cases hv ha k1 hc with ⟨q1, q2, q3⟩ | ⟨q1, q2, q3, q4⟩
            · omega
            · have b1 := dst_big (Vg_l hv) (d := e) (by omega) hx k1 (by omega)
              refine Or.inr ⟨Or.inr (Or.inr ⟨eR, n3, h0, e, k, e1, by omega, k1, k2, by omega, by rw [eS, k3, q3], q4⟩), by omega, hc⟩
          · rw [stR_ge h2] at eR
            rw [stS_ge h2] at eS
            exact Or.inl ⟨eR, n3, by omega⟩
    · refine Or.inr ⟨?_, by omega, hc⟩
      rcases n4 with h | h
      · exact Or.inl h
      · exact Or.inr (Or.inl h)
  · have hcb : ¬ bitB (dsV (dst g) (aC g al)) (aD g al) = true := fun q => hc ((ds_bit hd4).mp q)
    have eS : SS g al x = 1000000 := if_neg hcb
    have eR : RR g al x = 0 := if_neg hcb
    refine Or.inl ⟨eR, fun q => hc ?_, by omega⟩
    exact (dst_self hv hd4 hx hc14 q).2
theorem tot_S {g : Nat → Nat} (hv : Vg g) {al x : Nat} (ha : al < kA g) (hx : x < 14) : SS g al x < 1000000 ↔ RR g al x ≠ 0 := by
  rcases tot_cases hv ha hx with ⟨h1, h2, h3⟩ | ⟨h, h2, h3⟩
  · exact ⟨fun q => absurd q h3, fun q => absurd h1 q⟩
  · refine ⟨fun _ => ?_, fun _ => by omega⟩
    rcases h with h | h | h <;> rw [h.1] <;> decide
/-- no total is less than the shortest way -/
theorem tot_sh {g : Nat → Nat} (hv : Vg g) {al x : Nat} (ha : al < kA g) (hx : x < 14) : dst g 4 x (aC g al) + aL g al ≤ SS g al x ∨ RR g al x = 0 := by
  obtain ⟨hc14, hl20, hd4⟩ := hv.2.2.2.2 al ha
  have hc14 : aC g al < 14 := hc14
  have hd4 : aD g al < 4 := hd4
  have k1 : ∀ x, x < 14 → tot1 g al x → dst g 4 x (aC g al) + aL g al ≤ SS g al x := by
    rintro x hx ⟨h1, h2, h3⟩
    have := dst4_le hv hd4 hx hc14
    omega
  have k2 : ∀ x, x < 14 → tot2 g al x → dst g 4 x (aC g al) + aL g al ≤ SS g al x := by
    rintro x hx ⟨h1, h2, h3, h4, k, k1, k2, k3, k4, k5⟩
    have a1 := dst4_le hv (d := 0) (by decide) hx k1
    have a2 := dst4_le hv hd4 k1 hc14
    have a3 := dst4_tri hv hx hc14 k1
    omega
  rcases tot_cases hv ha hx with h | ⟨h | h | h, -, -⟩
  · exact Or.inr h.1
  · exact Or.inl (k1 x hx h)
  · exact Or.inl (k2 x hx h)
  · obtain ⟨h1, h2, h3, e, k, e1, e4, m1, m2, m3, m4, m5⟩ := h
    have a1 := dst4_le hv e4 hx m1
    have a3 := dst4_tri hv hx hc14 m1
    have a2 : dst g 4 k (aC g al) + aL g al ≤ SS g al k := m5.elim (k1 k m1) (k2 k m1)
    exact Or.inl (by omega)
/-- who stands at the alley and has a total has it by 1 -/
theorem tot_at {g : Nat → Nat} (hv : Vg g) {al : Nat} (ha : al < kA g) (h : RR g al (aC g al) ≠ 0) : RR g al (aC g al) = 1 := by
  have hc14 : aC g al < 14 := (hv.2.2.2.2 al ha).1
  rcases tot_cases hv ha hc14 with h8 | ⟨h9 | h9 | h9, -, hc⟩
  · exact absurd h8.1 h
  · exact h9.1
  · exact absurd (by rw [hc]; decide) h9.2.1
  · exact absurd (by rw [hc]; decide) h9.2.1
