/-! THE REFERENCE'S TOTALS ARE THE CLASS'S -/
def qq (a b : Nat) : Prop := a = b ∨ (1000000 ≤ a ∧ 1000000 ≤ b)
theorem qq_S {a b : Nat} (h : qq a b) : stS a = stS b := by
  unfold stS
  rcases h with h | h
  · rw [h]
  · rw [if_neg (by omega), if_neg (by omega)]
theorem qq_R {a b r : Nat} (h : qq a b) : stR a r = stR b r := by
  unfold stR
  rcases h with h | h
  · rw [h]
  · rw [if_neg (by omega), if_neg (by omega)]
theorem bit_d {g : Nat → Nat} (hl : lok g (kL g)) {d x : Nat} (hd : d < 4) (hx : x < 14) : bitB (dsV (dst g) x) d = inn g d x := by rw [dsV_bit hd, inn_d hl hd hx]
theorem bit_g {g : Nat → Nat} (hl : lok g (kL g)) {d k : Nat} (hd : d < 4) (hk : k < 14) : bitB (gaV (dst g) d) k = gateK g d k := by
  unfold gateK
  by_cases h : d = 0
  · subst h
    rw [gaV_0]
    rfl
  · rw [gaV_bit hk (by omega) hd, inn_d hl hd hk, inn_d hl (show 0 < 4 by decide) hk, decide_eq_true (show 0 < d by omega), Bool.true_and, Bool.and_comm]
theorem lob_q {g : Nat → Nat} (hl : lok g (kL g)) {al x : Nat} (hd : alC g al 2 < 4) : ∀ n, n ≤ 14 → qq (minA 1000000 (fun k => bitB (gaV (dst g) (alC g al 2)) k) (fun k => dst g 0 x k + dst g (alC g al 2) k (alC g al 0)) n + alC g al 1) (mnF (bgN g x al) n)
  | 0, _ => Or.inr ⟨by show 1000000 ≤ 1000000 + _; omega, Nat.le_refl _⟩
  | n + 1, hn => by
    have ih := lob_q hl (al := al) (x := x) hd n (by omega)
    have hm := mnF_le (bgN g x al) n
    have hb := bit_g hl hd (show n < 14 by omega)
    show qq ((if bitB (gaV (dst g) (alC g al 2)) n then min (minA 1000000 (fun k => bitB (gaV (dst g) (alC g al 2)) k) (fun k => dst g 0 x k + dst g (alC g al 2) k (alC g al 0)) n) (dst g 0 x n + dst g (alC g al 2) n (alC g al 0)) else minA 1000000 (fun k => bitB (gaV (dst g) (alC g al 2)) k) (fun k => dst g 0 x k + dst g (alC g al 2) k (alC g al 0)) n) + alC g al 1) (min (if gateK g (alC g al 2) n = true then dst g 0 x n + dst g (alC g al 2) n (alC g al 0) + alC g al 1 else 1000000) (mnF (bgN g x al) n))
    generalize minA 1000000 (fun k => bitB (gaV (dst g) (alC g al 2)) k) (fun k => dst g 0 x k + dst g (alC g al 2) k (alC g al 0)) n = A at *
    generalize mnF (bgN g x al) n = B at *
    rw [hb]
    unfold qq at ih ⊢
    split <;> omega
theorem near_in {g : Nat → Nat} (hv : Vk g) {al x : Nat} (ha : al < kA g) (hx : x < 14) : NS g al x = (if inn g (alC g al 2) (alC g al 0) = true then npS (dst g) (dsV (dst g)) (gaV (dst g)) (alC g al 0) (alC g al 1) (alC g al 2) x else 1000000) ∧ NR g al x = (if inn g (alC g al 2) (alC g al 0) = true then npR (dst g) (dsV (dst g)) (gaV (dst g)) (alC g al 0) (alC g al 1) (alC g al 2) x else 0) := by
  have hl := Vk_l hv
  obtain ⟨a12, a0, a1, a2⟩ := Vk_a hv ha
  have h1M := dst_1M hl (d := alC g al 2) hx a0
  cases hin : inn g (alC g al 2) (alC g al 0) with
  | true =>
    rw [if_pos rfl, if_pos rfl]
    unfold npS npR NS NR NT
    rw [bit_d hl (by decide) hx]
    by_cases h : dst g (alC g al 2) x (alC g al 0) < 1000000
    · have hb := dst_big hl (by omega) hx a0 h
      have hw : WN g al x < 1000000 := by unfold WN; omega
      rw [if_pos h, if_pos h, if_pos hw, if_pos hw]
      exact ⟨rfl, rfl⟩
    · have hw : ¬ WN g al x < 1000000 := by unfold WN; omega
      rw [if_neg h, if_neg h, if_neg hw, if_neg hw]
      unfold LN
      cases h0 : inn g 0 x with
      | true =>
        rw [if_pos rfl, if_pos rfl, if_pos rfl]
        have q := lob_q hl (al := al) (x := x) a2 14 (Nat.le_refl _)
        exact ⟨(qq_S q).symm, (qq_R q).symm⟩
      | false => exact ⟨rfl, rfl⟩
  | false =>
    rw [if_neg (by decide), if_neg (by decide)]
    have e : ∀ k, k < 14 → dst g (alC g al 2) k (alC g al 0) = 1000000 := fun k hk => (dst_out hl a2 a0 hk hin).2
    have hw : ¬ WN g al x < 1000000 := by unfold WN; rw [e x hx]; omega
    have hm : ∀ n, n ≤ 14 → 1000000 ≤ mnF (bgN g x al) n := by
      intro n
      induction n with
      | zero => intro _; exact Nat.le_refl _
      | succ n ih =>
        intro hn
        refine Nat.le_min.mpr ⟨?_, ih (by omega)⟩
        unfold bgN
        split
        · rw [e n (by omega)]; omega
        · exact Nat.le_refl _
    have hL : 1000000 ≤ LN g al x := by
      unfold LN
      split
      · exact hm 14 (Nat.le_refl _)
      · exact Nat.le_refl _
    unfold NS NR NT
    rw [if_neg hw, if_neg hw]
    unfold stS stR
    rw [if_neg (by omega), if_neg (by omega)]
    exact ⟨rfl, rfl⟩
theorem lf_i {g : Nat → Nat} (hl : lok g (kL g)) {N : Nat → Nat} {x d : Nat} (hx : x < 14) (hd : d < 3) (h : qq (mnF (fun j => bdN g N x ((14 + j) % 14) ((14 + j) / 14)) (14 * d)) (lBN (dst g) (dsV (dst g)) (gaV (dst g)) N x d)) : ∀ i, i ≤ 14 → qq (mnF (fun j => bdN g N x ((14 + j) % 14) ((14 + j) / 14)) (14 * d + i)) (if bitB (dsV (dst g) x) (d + 1) then minA (lBN (dst g) (dsV (dst g)) (gaV (dst g)) N x d) (fun k => bitB (gaV (dst g) (d + 1)) k) (fun k => dst g (d + 1) x k + N k) i else lBN (dst g) (dsV (dst g)) (gaV (dst g)) N x d)
  | 0, _ => by
    rw [Nat.add_zero]
    split
    · exact h
    · exact h
  | i + 1, hi => by
    have ih := lf_i hl hx hd h i (by omega)
    have hm := mnF_le (fun j => bdN g N x ((14 + j) % 14) ((14 + j) / 14)) (14 * d + i)
    have hb := bit_g hl (show d + 1 < 4 by omega) (show i < 14 by omega)
    have hq := bit_d hl (show d + 1 < 4 by omega) hx
    have e : mnF (fun j => bdN g N x ((14 + j) % 14) ((14 + j) / 14)) (14 * d + (i + 1)) = min (bdN g N x i (d + 1)) (mnF (fun j => bdN g N x ((14 + j) % 14) ((14 + j) / 14)) (14 * d + i)) := by
      show min (bdN g N x ((14 + (14 * d + i)) % 14) ((14 + (14 * d + i)) / 14)) _ = _
      rw [show (14 + (14 * d + i)) % 14 = i by omega, show (14 + (14 * d + i)) / 14 = d + 1 by omega]
      rfl
    rw [e]
    rw [hq] at ih ⊢
    have eb : bdN g N x i (d + 1) = if gateK g (d + 1) i = true then dst g (d + 1) x i + N i else 1000000 := rfl
    generalize mnF (fun j => bdN g N x ((14 + j) % 14) ((14 + j) / 14)) (14 * d + i) = A at *
    rw [eb]
    cases hin : inn g (d + 1) x with
    | true =>
      rw [hin, if_pos rfl] at ih
      rw [if_pos rfl]
      show qq _ (if bitB (gaV (dst g) (d + 1)) i then min (minA (lBN (dst g) (dsV (dst g)) (gaV (dst g)) N x d) (fun k => bitB (gaV (dst g) (d + 1)) k) (fun k => dst g (d + 1) x k + N k) i) (dst g (d + 1) x i + N i) else minA (lBN (dst g) (dsV (dst g)) (gaV (dst g)) N x d) (fun k => bitB (gaV (dst g) (d + 1)) k) (fun k => dst g (d + 1) x k + N k) i)
      generalize minA (lBN (dst g) (dsV (dst g)) (gaV (dst g)) N x d) (fun k => bitB (gaV (dst g) (d + 1)) k) (fun k => dst g (d + 1) x k + N k) i = B at *
      rw [hb]
      unfold qq at ih ⊢
      split <;> omega
    | false =>
      rw [hin, if_neg (by decide)] at ih
      rw [(dst_out hl (show d + 1 < 4 by omega) hx (show i < 14 by omega) hin).1, if_neg (show ¬ false = true by decide)]
      unfold qq at ih ⊢
      split <;> omega
theorem lf_q {g : Nat → Nat} (hl : lok g (kL g)) {N : Nat → Nat} {x : Nat} (hx : x < 14) : qq (LF g N x) (lBN (dst g) (dsV (dst g)) (gaV (dst g)) N x 3) := by
  have h0 : qq (mnF (fun j => bdN g N x ((14 + j) % 14) ((14 + j) / 14)) (14 * 0)) (lBN (dst g) (dsV (dst g)) (gaV (dst g)) N x 0) := Or.inl rfl
  have h1 := lf_i hl hx (d := 0) (by decide) h0 14 (Nat.le_refl _)
  have h2 := lf_i hl hx (d := 1) (by decide) h1 14 (Nat.le_refl _)
  exact lf_i hl hx (d := 2) (by decide) h2 14 (Nat.le_refl _)
theorem fin_e {g : Nat → Nat} (hv : Vk g) {al x : Nat} (ha : al < kA g) (hx : x < 14) : FS g al x = tSg g (dst g) al x ∧ FR g al x = tRg g (dst g) al x := by
  have hl := Vk_l hv
  obtain ⟨a12, a0, a1, a2⟩ := Vk_a hv ha
  have hn : ∀ y, y < 14 → _ := fun y hy => near_in hv ha hy
  unfold tSg tRg tS tR
  rw [bit_d hl a2 a0]
  cases hin : inn g (alC g al 2) (alC g al 0) with
  | true =>
    rw [if_pos rfl, if_pos rfl]
    have hN : ∀ y, y < 14 → NS g al y = npS (dst g) (dsV (dst g)) (gaV (dst g)) (alC g al 0) (alC g al 1) (alC g al 2) y ∧ NR g al y = npR (dst g) (dsV (dst g)) (gaV (dst g)) (alC g al 0) (alC g al 1) (alC g al 2) y := by
      intro y hy
      have := hn y hy
      rwa [hin, if_pos rfl, if_pos rfl] at this
    have hq : qq (LF g (NS g al) x) (lBN (dst g) (dsV (dst g)) (gaV (dst g)) (npS (dst g) (dsV (dst g)) (gaV (dst g)) (alC g al 0) (alC g al 1) (alC g al 2)) x 3) := by
      rw [LF_c (N' := npS (dst g) (dsV (dst g)) (gaV (dst g)) (alC g al 0) (alC g al 1) (alC g al 2)) (fun k hk _ => (hN k hk).1)]
      exact lf_q hl hx
    unfold FS FR fpS fpR
    rw [bit_d hl (by decide) hx, (hN x hx).1, (hN x hx).2, qq_S hq, qq_R hq]
    by_cases h : inn g 0 x = false ∧ npR (dst g) (dsV (dst g)) (gaV (dst g)) (alC g al 0) (alC g al 1) (alC g al 2) x = 0
    · rw [if_pos h, if_pos h, if_pos ⟨h.2, h.1⟩, if_pos ⟨h.2, h.1⟩]
      exact ⟨rfl, rfl⟩
    · have h2 : ¬ (npR (dst g) (dsV (dst g)) (gaV (dst g)) (alC g al 0) (alC g al 1) (alC g al 2) x = 0 ∧ inn g 0 x = false) := fun q => h ⟨q.2, q.1⟩
      rw [if_neg h, if_neg h, if_neg h2, if_neg h2]
      exact ⟨rfl, rfl⟩
  | false =>
    rw [if_neg (by decide), if_neg (by decide)]
    have hN : ∀ y, y < 14 → NS g al y = 1000000 ∧ NR g al y = 0 := by
      intro y hy
      have := hn y hy
      rwa [hin, if_neg (by decide), if_neg (by decide)] at this
    have hL : ∀ n, 1000000 ≤ mnF (fun j => bdN g (NS g al) x ((14 + j) % 14) ((14 + j) / 14)) n := by
      intro n
      induction n with
      | zero => exact Nat.le_refl _
      | succ n ih =>
        refine Nat.le_min.mpr ⟨?_, ih⟩
        show 1000000 ≤ bdN g (NS g al) x ((14 + n) % 14) ((14 + n) / 14)
        unfold bdN
        split
        · rw [(hN ((14 + n) % 14) (by omega)).1]; omega
        · exact Nat.le_refl _
    have hL42 : ¬ LF g (NS g al) x < 1000000 := Nat.not_lt.mpr (hL 42)
    unfold FS FR
    rw [(hN x hx).1, (hN x hx).2]
    unfold stS stR
    rw [if_neg hL42, if_neg hL42]
    constructor <;> split <;> rfl
/-- the class's own words for the same -/
theorem dsV_c {D D' : Nat → Nat → Nat → Nat} (h : ∀ d, d < 4 → D d = D' d) : dsV D = dsV D' := funext fun x => bitS_congr fun d hd => by rw [h d (by omega)]
theorem gaV_c {D D' : Nat → Nat → Nat → Nat} (h : ∀ d, d < 4 → D d = D' d) : gaV D = gaV D' := by
  funext d
  unfold gaV gaI
  split
  · rename_i hd
    exact bitS_congr fun x _ => by rw [h 0 (by omega), h d (by omega)]
  · rfl
theorem lOB_c {D D' : Nat → Nat → Nat → Nat} (h : ∀ d, d < 4 → D d = D' d) {ga : Nat → Nat} {x d e : Nat} (hd : d < 4) : lOB D ga x d e = lOB D' ga x d e := by
  unfold lOB
  rw [h 0 (by omega), h d (by omega)]
theorem npS_c {D D' : Nat → Nat → Nat → Nat} (h : ∀ d, d < 4 → D d = D' d) {di ga : Nat → Nat} {c l d : Nat} (hd : d < 4) : npS D di ga c l d = npS D' di ga c l d := by
  funext x
  unfold npS
  rw [lOB_c h hd, h d (by omega)]
theorem npR_c {D D' : Nat → Nat → Nat → Nat} (h : ∀ d, d < 4 → D d = D' d) {di ga : Nat → Nat} {c l d : Nat} (hd : d < 4) : npR D di ga c l d = npR D' di ga c l d := by
  funext x
  unfold npR
  rw [lOB_c h hd, h d (by omega)]
theorem lBN_c {D D' : Nat → Nat → Nat → Nat} (h : ∀ d, d < 4 → D d = D' d) {di ga N : Nat → Nat} {x : Nat} : ∀ {d : Nat}, d ≤ 3 → lBN D di ga N x d = lBN D' di ga N x d
  | 0, _ => rfl
  | d + 1, hd => by
    unfold lBN
    rw [lBN_c h (by omega), h (d + 1) (by omega)]
theorem tSg_c {g : Nat → Nat} {D D' : Nat → Nat → Nat → Nat} (h : ∀ d, d < 4 → D d = D' d) {al : Nat} (hd : alC g al 2 < 4) : tSg g D al = tSg g D' al ∧ tRg g D al = tRg g D' al := by
  constructor
  · funext x
    unfold tSg tS fpS
    rw [dsV_c h, gaV_c h, npS_c h hd, npR_c h hd, lBN_c h (Nat.le_refl _)]
  · funext x
    unfold tRg tR fpR
    rw [dsV_c h, gaV_c h, npS_c h hd, npR_c h hd, lBN_c h (Nat.le_refl _)]
theorem dstD_d {g : Nat → Nat} {D : Nat → Nat → Nat → Nat} {d : Nat} (h : d < 5) : dstD g D d = dst g d := if_pos h
