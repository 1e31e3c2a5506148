theorem sum_c {p : Nat → Nat → Bool} {n : Nat} : ∀ m, sumB (fun _ => true) (fun x => cntB (p x) (n + 1)) m = sumB (fun _ => true) (fun x => cntB (p x) n) m + cntB (fun x => p x n) m
  | 0 => rfl
  | m + 1 => by
    have ih := sum_c (p := p) (n := n) m
    rw [sumB_t (p := fun _ => true) rfl, sumB_t (p := fun _ => true) rfl, ih]
    cases hp : p m n with
    | true => rw [cntB_t (p := fun x => p x n) hp, cntB_t (p := p m) hp]; omega
    | false => rw [cntB_f (p := fun x => p x n) hp, cntB_f (p := p m) hp]; omega
theorem sum_0 : ∀ m, sumB (fun _ => true) (fun _ => 0) m = 0
  | 0 => rfl
  | m + 1 => by rw [sumB_t (p := fun _ => true) rfl, sum_0 m]
/-! COUNTS -/
theorem cntB_or {p q r : Nat → Bool} : ∀ n, (∀ i, i < n → p i = true → q i = true ∨ r i = true) → cntB p n ≤ cntB q n + cntB r n
  | 0, _ => Nat.le_refl _
  | n + 1, h => by
    have ih := cntB_or n (fun i hi => h i (by omega))
    have hn := h n (by omega)
    unfold cntB
    cases hp : p n with
    | false => rw [if_neg (by decide)]; omega
    | true =>
      rw [if_pos rfl]
      rcases hn hp with e | e <;> rw [e, if_pos rfl] <;> omega
theorem cntB_rm {p : Nat → Bool} {j : Nat} : ∀ n, j < n → p j = true → cntB p n = cntB (fun i => !(decide (i = j)) && p i) n + 1
  | 0, h, _ => absurd h (Nat.not_lt_zero _)
  | n + 1, hj, hp => by
    by_cases hn : j = n
    · subst hn
      rw [cntB_t hp, cntB_f (p := fun i => !(decide (i = j)) && p i) (by show (!(decide (j = j)) && p j) = false; rw [decide_eq_true rfl]; rfl)]
      congr 1
      refine cntB_congr fun i hi => ?_
      show p i = (!(decide (i = j)) && p i)
      rw [decide_eq_false (by omega)]
      rfl
    · have ih := cntB_rm n (by omega) hp
      unfold cntB
      rw [ih]
      have e : (!(decide (n = j)) && p n) = p n := by rw [decide_eq_false (by omega)]; rfl
      rw [e]
      omega
/-- each has one of the fourteen -/
def clS (g : Nat → Nat) : Nat → Nat
  | 0 => 0
  | c + 1 => clS g c + cntB (fun i => hasCk g i && ck g i == c) (kL g)
theorem cl_cnt {g : Nat → Nat} {n : Nat} : ∀ c, clS g c = cntB (fun i => hasCk g i && decide (ck g i < c)) (kL g)
  | 0 => by
    show 0 = _
    have : ∀ m, cntB (fun i => hasCk g i && decide (ck g i < 0)) m = 0 := by
      intro m
      induction m with
      | zero => rfl
      | succ m ih =>
        rw [cntB_f (p := fun i => hasCk g i && decide (ck g i < 0)) (by show (hasCk g m && decide (ck g m < 0)) = false; rw [decide_eq_false (by omega)]; exact Bool.and_false _), ih]
    exact (this _).symm
  | c + 1 => by
    show clS g c + cntB (fun i => hasCk g i && ck g i == c) (kL g) = _
    rw [cl_cnt (n := n) c]
    generalize kL g = m
    induction m with
    | zero => rfl
    | succ m ih =>
      unfold cntB
      have e : ∀ b : Nat, (hasCk g m && (ck g m == b)) = (hasCk g m && decide (ck g m = b)) := fun b => rfl
      rw [← ih]
      cases hh : hasCk g m with
      | false => simp
      | true =>
        have d : (ck g m == c) = decide (ck g m = c) := rfl
        simp only [Bool.true_and, d, decide_eq_true_eq]
        by_cases h1 : ck g m < c
        · rw [if_pos h1, if_neg (by omega), if_pos (by omega)]; omega
        · by_cases h2 : ck g m = c
          · rw [if_neg h1, if_pos h2, if_pos (by omega)]; omega
          · rw [if_neg h1, if_neg h2, if_neg (by omega)]; omega
theorem cl_all {g : Nat → Nat} (hv : Vg g) : clS g 14 = cntB (hasCk g) (kL g) := by
  rw [cl_cnt (n := 0) 14]
  refine cntB_congr fun i hi => ?_
  obtain ⟨a, b, -⟩ := hv.2.2.2.1 i hi
  have := ckB_lt (g := g) a b
  show (hasCk g i && decide (ck g i < 14)) = hasCk g i
  rw [decide_eq_true (show ck g i < 14 from this), Bool.and_true]
/-- pairs -/
def prN (g : Nat → Nat) : Nat → Nat
  | 0 => 0
  | n + 1 => prN g n + cntB (fun y => !(RR g n y == 0)) 14
theorem prN_le (g : Nat → Nat) : ∀ n, prN g n ≤ 14 * n
  | 0 => Nat.le_refl _
  | n + 1 => by
    have := prN_le g n
    have := cntB_le (fun y => !(RR g n y == 0)) 14
    show prN g n + _ ≤ _
    omega
theorem kL_cl {g : Nat → Nat} {i v : Nat} : kL (gCl g i v) = kL g := (if_neg (by omega) : updN g (15 + 5 * i + 4) v 14 = g 14)
theorem kA_cl {g : Nat → Nat} {i v : Nat} (h : i < 24) : kA (gCl g i v) = kA g := (if_neg (by omega) : updN g (15 + 5 * i + 4) v 140 = g 140)
theorem SS_cl {g : Nat → Nat} (hv : Vg g) {W : TC} (hW : WOK g W) {lo : Nat} (hlo : lo < kL g) {al x : Nat} (ha : al < kA g) : tSg g (wD g W lo) al x = SS (gCl g lo 1) al x := by
  have h24 : lo < 25 := by have := hv.1; omega
  have hd : alC g al 2 < 4 := (hv.2.2.2.2 al ha).2.2
  have e1 := (tSg_c (g := g) (D := wD g W lo) (D' := dst (gCl g lo 1)) (fun d hd => (dst_cl hv hW hlo hd).symm) hd).1
  rw [e1]
  show _ = tSg (gCl g lo 1) (dst (gCl g lo 1)) al x
  unfold tSg
  rw [al_cl h24, al_cl h24, al_cl h24]
theorem lost_ge {g : Nat → Nat} (hv : Vg g) {W : TC} (hW : WOK g W) {lo : Nat} (hlo : lo < kL g) : prN g (kA g) ≤ cF (kA g) 0 W.2.2.2.1 (tSg g (wD g W lo)) + prN (gCl g lo 1) (kA g) := by
  have h24 : lo < 24 := by have := hv.1; omega
  have hv' : Vg (gCl g lo 1) := Vg_cl hv hlo (Nat.le_refl _)
  have key : ∀ n, n ≤ kA g → prN g n ≤ sumB (fun _ => true) (fun x => cntB (fun al => chB 0 (W.2.2.2.1 (x * 12 + al)) (tSg g (wD g W lo) al x)) n) 14 + prN (gCl g lo 1) n := by
    intro n hn
    induction n with
    | zero => exact Nat.zero_le _
    | succ n ih =>
      have ih := ih (by omega)
      have s := sum_c (p := fun x al => chB 0 (W.2.2.2.1 (x * 12 + al)) (tSg g (wD g W lo) al x)) (n := n) 14
      have o := cntB_or (p := fun y => !(RR g n y == 0)) (q := fun x => chB 0 (W.2.2.2.1 (x * 12 + n)) (tSg g (wD g W lo) n x)) (r := fun y => !(RR (gCl g lo 1) n y == 0)) 14 (fun x hx hr => by
        have hr : RR g n x ≠ 0 := by simpa using hr
        by_cases h9 : RR (gCl g lo 1) n x = 0
        · refine Or.inl ?_
          have q1 := (tot_S hv (show n < kA g by omega) hx).mpr hr
          have q2 : ¬ SS (gCl g lo 1) n x < 1000000 := fun q => (tot_S hv' (show n < kA (gCl g lo 1) by rw [kA_cl h24]; omega) hx).mp q h9
          have hs : W.2.2.2.1 (x * 12 + n) = SS g n x := (hW.2.2.2.1 x n hx (by omega)).1
          show chB 0 (W.2.2.2.1 (x * 12 + n)) (tSg g (wD g W lo) n x) = true
          rw [hs, SS_cl hv hW hlo (by omega)]
          unfold chB
          rw [if_pos rfl, decide_eq_true q1, decide_eq_false q2]
          rfl
        · refine Or.inr ?_
          show (!(RR (gCl g lo 1) n x == 0)) = true
          simp [h9])
      show prN g n + _ ≤ sumB _ _ 14 + (prN (gCl g lo 1) n + _)
      rw [s]
      omega
  exact key (kA g) (Nat.le_refl _)
theorem told_m1 {g : Nat → Nat} (hv : Vg g) {lo : Nat} (hlo : lo < kL g) (ht : told g lo = true) : cntB (told g) (kL g) = cntB (told (gCl g lo 1)) (kL g) + 1 := by
  rw [cntB_rm (kL g) hlo ht]
  congr 1
  exact cntB_congr fun i hi => (told_cl hv hi).symm
/-! SMALL SETS AS INTS -/
theorem and_set : ∀ (s : Fin 16) (d : Fin 4), (bitB s.val d.val = true → 0 < (nI s.val &&& ((1 : Int32) <<< (nI d.val &&& 31)))) := by decide +kernel
theorem and_1 : ∀ (s : Fin 16), nI s.val &&& 1 = nI (s.val % 2) := by decide +kernel
theorem gd_eq : ∀ (s : Fin 16), nI (if bitB s.val 0 then s.val - 1 else 0) = (if s.val % 2 = 1 then nI s.val &&& 14 else 0) := by decide +kernel
theorem sub_le {a b c : Nat} (ha : a < 2 ^ 20) (hb : b < 2 ^ 20) (hc : c < 2 ^ 20) (h : a ≤ c + b) : ¬ nI c < nI a - nI b := by
  rw [Int32.lt_iff_toInt_lt, pk_sub_toInt (by omega) (by omega), nI_toInt (by omega)]
  omega
