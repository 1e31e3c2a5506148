theorem dF_c {g g' : Nat → Nat} {p p' : Nat → Bool} {e : Nat → Nat → Nat} : ∀ {n : Nat}, (∀ i, i < n → p i = p' i) → (∀ i, i < n → lnC g' i 0 = lnC g i 0 ∧ lnC g' i 1 = lnC g i 1 ∧ lnC g' i 2 = lnC g i 2) → dstF g' p' e n = dstF g p e n
  | 0, _, _ => rfl
  | n + 1, h1, h2 => by
    have ih := dF_c (g := g) (g' := g') (p := p) (p' := p') (e := e) (n := n) (fun i hi => h1 i (by omega)) (fun i hi => h2 i (by omega))
    obtain ⟨e0, e1, e2⟩ := h2 n (by omega)
    unfold dstF
    rw [ih, h1 n (by omega), e0, e1, e2]
theorem told_cl {g : Nat → Nat} (hv : Vg g) {lo i : Nat} (hi : i < kL g) : told (gCl g lo 1) i = (!(decide (i = lo)) && told g i) := by
  obtain ⟨x0, x1, -⟩ := hv.2.2.2.1 i hi
  have e : ∀ x, x < 14 → gCl g lo 1 x = g x := fun x hx => if_neg (by omega)
  unfold told hasCk hasB
  rw [cl_ln (by decide), cl_ln (by decide), cl_ln (by decide), if_neg (show ¬ (i = lo ∧ 0 = 4) by omega), if_neg (show ¬ (i = lo ∧ 1 = 4) by omega), e _ x0, e _ x1]
  by_cases h : i = lo
  · rw [if_pos ⟨h, rfl⟩, decide_eq_true h]
    rfl
  · rw [if_neg (fun q => h q.1), decide_eq_false h]
    rfl
theorem dst_cl {g : Nat → Nat} (hv : Vg g) {W : TC} (hW : WOK g W) {lo : Nat} (hlo : lo < kL g) {d : Nat} (hd : d < 4) : dst (gCl g lo 1) d = wD g W lo d := by
  have hk : kL (gCl g lo 1) = kL g := if_neg (by omega)
  have hl : ∀ i, i < kL g → lnC (gCl g lo 1) i 0 = lnC g i 0 ∧ lnC (gCl g lo 1) i 1 = lnC g i 1 ∧ lnC (gCl g lo 1) i 2 = lnC g i 2 := fun i hi => by
    rw [cl_ln (by decide), cl_ln (by decide), cl_ln (by decide), if_neg (by omega), if_neg (by omega), if_neg (by omega)]
    exact ⟨rfl, rfl, rfl⟩
  have h3 : ∀ i, lnC (gCl g lo 1) i 3 = lnC g i 3 := fun i => by rw [cl_ln (by decide), if_neg (by omega)]
  unfold wD WOI dst
  rw [hk]
  by_cases h : d = lnC g lo 3
  · rw [if_pos h, ← h]
    refine dF_c (fun i hi => ?_) hl
    unfold pW pL
    rw [told_cl hv hi, h3]
    have : (d == 4) = false := by simp; omega
    rw [this, Bool.false_or, show (lnC g i 3 == d) = decide (lnC g i 3 = d) from rfl]
    cases decide (i = lo) <;> cases told g i <;> cases decide (lnC g i 3 = d) <;> rfl
  · rw [if_neg h, hW.1 d (by omega)]
    refine dF_c (fun i hi => ?_) hl
    unfold pL
    rw [told_cl hv hi, h3]
    by_cases h9 : i = lo
    · subst h9
      have e1 : (d == 4) = false := by simp; omega
      have e2 : (lnC g i 3 == d) = false := by simp; omega
      rw [e1, e2]
      simp
    · rw [decide_eq_false h9]
      rfl
theorem al_cl {g : Nat → Nat} {lo : Nat} (hlo : lo < 25) (j c : Nat) : alC (gCl g lo 1) j c = alC g j c := if_neg (by omega)
