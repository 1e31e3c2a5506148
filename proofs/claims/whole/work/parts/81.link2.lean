/-! CLASS AND REFERENCE ANSWER ALIKE: totals, walks, what would be -/
theorem se24 {g : Nat → Nat} (hv : Vg g) {W : TC} (hW : WOK g W) {x al : Nat} (hx : x < 14) (ha : al < kA g) : seN g W x al 24 = sfN g x al (kL g) := by
  rw [seN_e (Vk_of hv) hW hx ha, show 24 = kL g + (24 - kL g) by have := hv.1; omega]
  exact sfN_hi _
theorem e_TO {g : Nat → Nat} (hv : Vg g) {W : TC} (hW : WOK g W) {x al w : Int32} : aTO g W x al w = rTO g x al w := by
  unfold aTO rTO
  by_cases h : (isC x && tHas (nI (kA g)) al) = true
  · rw [if_pos h, if_pos h]
    simp only [Bool.and_eq_true] at h
    obtain ⟨i, hi, rfl⟩ := isC_n h.1
    obtain ⟨j, hj, rfl⟩ := tHas_s (by have := hv.2.1; omega) h.2
    rw [nI_clamp (n := i) (by omega), nI_clamp (n := j) (by have := hv.2.1; omega), hsT_e hW hi hj, (hW.2.2.2.1 i j hi hj).1, (hW.2.2.2.1 i j hi hj).2, se24 hv hW hi hj]
    have e : (fsN g W i j 24).bind (fun b => oeN g b i) = lwG (sfN g i j (kL g)) 14 := by
      have := fst_e hv hW hi hj
      cases hf : fsN g W i j 24 with
      | none => rw [hf] at this; exact this.symm
      | some b => rw [hf] at this; show oeN g b i = _; rw [this.1, this.2.1]
    rw [e]
    by_cases hr : w < 0 ∨ 3 < w
    · rw [if_pos hr, if_pos hr]
    · rw [if_neg hr, if_neg hr]
      by_cases h0 : FR g j i = 0
      · rw [if_pos h0, if_neg (by simp [h0])]
      · rw [if_neg h0, if_pos (by simp [h0])]
  · rw [if_neg h, if_neg h]
theorem wk_e {g : Nat → Nat} (hv : Vg g) {W : TC} (hW : WOK g W) {al : Nat} (ha : al < kA g) : ∀ k x len ps, x < 14 → wkG g W al k x len ps = rwN g al k x len (ps ||| 2 ^ x)
  | 0, x, len, ps, hx => rfl
  | k + 1, x, len, ps, hx => by
    have ih := wk_e hv hW ha k
    have ea : arB g W x al = arR g al x := by
      unfold arB arR
      rw [(hW.2.2.2.1 x al hx ha).2, Bool.and_comm]
    cases h : arB g W x al with
    | true => rw [wkG_a h, rwN_a (by rw [← ea]; exact h)]
    | false =>
      have h2 : arR g al x = false := by rw [← ea]; exact h
      have hf := fst_e hv hW hx ha
      rw [rwN_s h2]
      cases hs : fsN g W x al 24 with
      | none =>
        rw [hs] at hf
        have hf : lwG (sfN g x al (kL g)) 14 = none := hf
        rw [wkG_n h hs, hf]
        rfl
      | some b =>
        rw [hs] at hf
        obtain ⟨f1, f2, f3, f4, f5⟩ := hf
        rw [wkG_s h hs, ih _ _ _ f3, f1]
        show _ = rwN g al k (oeD g b x) (len + ssN g x (oeD g b x) al (kL g)) (ps ||| 2 ^ x ||| 2 ^ oeD g b x)
        rw [f5]
theorem e_WK {g : Nat → Nat} (hv : Vg g) {W : TC} (hW : WOK g W) {x al w : Int32} : aWK g W x al w = rWK g x al w := by
  unfold aWK rWK
  by_cases h : (isC x && tHas (nI (kA g)) al) = true
  · rw [if_pos h, if_pos h]
    simp only [Bool.and_eq_true] at h
    obtain ⟨i, hi, rfl⟩ := isC_n h.1
    obtain ⟨j, hj, rfl⟩ := tHas_s (by have := hv.2.1; omega) h.2
    rw [nI_clamp (n := i) (by omega), nI_clamp (n := j) (by have := hv.2.1; omega)]
    have e : aWKx g W i j w = rWx g i j w := by
      unfold aWKx rWx
      rw [wk_e hv hW hj _ _ _ _ hi, Nat.zero_or]
      cases rwN g j 31 i (alC g j 1) (2 ^ i) <;> rfl
    rw [e]
  · rw [if_neg h, if_neg h]
/-! a lane closed, a lane more -/
theorem dF_c {g g' : Nat → Nat} {p p' : Nat → Bool} {e : Nat → Nat → Nat} : ∀ {n : Nat}, (∀ i, i < n → p i = p' i) → (∀ i, i < n → lnC g' i 0 = lnC g i 0 ∧ lnC g' i 1 = lnC g i 1 ∧ lnC g' i 2 = lnC g i 2) → dstF g' p' e n = dstF g p e n
  | 0, _, _ => rfl
  | n + 1, h1, h2 => by
    have ih := dF_c (g := g) (g' := g') (p := p) (p' := p') (e := e) (n := n) (fun i hi => h1 i (by omega)) (fun i hi => h2 i (by omega))
    obtain ⟨e0, e1, e2⟩ := h2 n (by omega)
    unfold dstF
    rw [ih, h1 n (by omega), e0, e1, e2]
theorem told_cl {g : Nat → Nat} (hv : Vk g) {lo i : Nat} (hi : i < kL g) : told (gCl g lo 1) i = (!(decide (i = lo)) && told g i) := by
  obtain ⟨h25, x0, x1, -⟩ := Vk_x hv hi
  have e : ∀ x, x < 14 → gCl g lo 1 x = g x := fun x hx => if_neg (by omega)
  unfold told hasCk hasB
  rw [cl_ln (by decide), cl_ln (by decide), cl_ln (by decide), if_neg (show ¬ (i = lo ∧ 0 = 4) by omega), if_neg (show ¬ (i = lo ∧ 1 = 4) by omega), e _ x0, e _ x1]
  by_cases h : i = lo
  · rw [if_pos ⟨h, rfl⟩, decide_eq_true h]
    rfl
  · rw [if_neg (fun q => h q.1), decide_eq_false h]
    rfl
theorem dst_cl {g : Nat → Nat} (hv : Vk g) {W : TC} (hW : WOK g W) {lo : Nat} (hlo : lo < kL g) {d : Nat} (hd : d < 4) : dst (gCl g lo 1) d = wD g W lo d := by
  have hk : kL (gCl g lo 1) = kL g := kL_cl
  have hl : ∀ i, i < kL g → lnC (gCl g lo 1) i 0 = lnC g i 0 ∧ lnC (gCl g lo 1) i 1 = lnC g i 1 ∧ lnC (gCl g lo 1) i 2 = lnC g i 2 := fun i hi => by
    rw [cl_ln (by decide), cl_ln (by decide), cl_ln (by decide), if_neg (by omega), if_neg (by omega), if_neg (by omega)]
    exact ⟨rfl, rfl, rfl⟩
  have h3 : ∀ i, lnC (gCl g lo 1) i 3 = lnC g i 3 := fun i => by rw [cl_ln (by decide), if_neg (by omega)]
  unfold wD WOI dst
  rw [hk]
  by_cases h : d = lnC g lo 3
  · rw [if_pos h, ← h]
    refine dF_c (fun i hi => ?_) hl
    unfold pW pL
    rw [told_cl hv hi, h3]
    have : (d == 4) = false := by simp; omega
    rw [this, Bool.false_or, beq_d]
    cases decide (i = lo) <;> cases told g i <;> cases decide (lnC g i 3 = d) <;> rfl
  · rw [if_neg h, hW.1 d (by omega)]
    refine dF_c (fun i hi => ?_) hl
    unfold pL
    rw [told_cl hv hi, h3]
    by_cases h9 : i = lo
    · subst h9
      have e1 : (d == 4) = false := by simp; omega
      have e2 : (lnC g i 3 == d) = false := by simp; omega
      rw [e1, e2]
      simp
    · rw [decide_eq_false h9]
      rfl
theorem al_cl {g : Nat → Nat} {lo : Nat} (hlo : lo < 25) (j c : Nat) : alC (gCl g lo 1) j c = alC g j c := if_neg (by omega)
theorem FS_D {g g' : Nat → Nat} (hv' : Vk g') (hk : kA g' = kA g) (hA : ∀ j c, alC g' j c = alC g j c) {D : Nat → Nat → Nat → Nat} (hD : ∀ d, d < 4 → dst g' d = D d) {al x : Nat} (ha : al < kA g) (hx : x < 14) : FS g' al x = tSg g D al x := by
  rw [(fin_e hv' (by rw [hk]; exact ha) hx).1]
  have e : tSg g' (dst g') al x = tSg g (dst g') al x := by
    unfold tSg
    rw [hA, hA, hA]
  rw [e, (tSg_c hD (by have := (Vk_a hv' (by rw [hk]; exact ha)).2.2.2; rw [hA] at this; exact this)).1]
theorem cF_e {g g' : Nat → Nat} {W : TC} (hW : WOK g W) {c : Nat} {F : Nat → Nat → Nat} (hF : ∀ al x, al < kA g → x < 14 → FS g' al x = F al x) : cF (kA g) c W.2.2.2.1 F = cgN c (fsK g) (fsK g') (14 * kA g) := by
  unfold cF cgN
  rw [← dbl (p := fun x al => chB c (W.2.2.2.1 (x * 12 + al)) (F al x))]
  refine cntB_congr fun k hk => ?_
  unfold fsK
  rw [(hW.2.2.2.1 (k % 14) (k / 14) (by omega) (by omega)).1, hF _ _ (by omega) (by omega)]
theorem cl_e {g : Nat → Nat} (hv : Vg g) {W : TC} (hW : WOK g W) {i : Nat} (hi : i < kL g) (c : Nat) : cF (kA g) c W.2.2.2.1 (tSg g (wD g W i)) = cgN c (fsK g) (fsK (gCl g i 1)) (14 * kA g) := by
  have hk := Vk_of hv
  have h25 : i < 25 := (Vk_x hk hi).1
  exact cF_e hW (fun al x ha hx => FS_D (Vk_cl hv hi (Nat.le_refl _)) (kA_cl h25) (al_cl h25) (fun d hd => dst_cl hk hW hi hd) ha hx)
theorem e_IC {g : Nat → Nat} (hv : Vg g) {W : TC} (hW : WOK g W) {x w : Int32} : aIC g W x w = rIC g x w := by
  unfold aIC rIC
  by_cases h : tHas (nI (kL g)) x = true
  · rw [if_pos h, if_pos h]
    obtain ⟨i, hi, rfl⟩ := tHas_s (by have := hv.1; omega) h
    rw [nI_clamp (by have := hv.1; omega)]
    unfold clN
    by_cases hr : w < 0 ∨ 2 < w
    · rw [if_pos hr, if_pos hr]
    · rw [if_neg hr, if_neg hr]
      cases ht : told g i with
      | true => rw [if_pos rfl, if_pos rfl, cl_e hv hW hi]
      | false => rfl
  · rw [if_neg h, if_neg h]
theorem wk2_e {g : Nat → Nat} (hv : Vg g) {W : TC} (hW : WOK g W) : ∀ n, n ≤ kL g → (wkI g W n).1 = (rwk g n).1 ∧ 1000 * (wkI g W n).2.1 + (wkI g W n).2.2 = (rwk g n).2
  | 0, _ => ⟨rfl, rfl⟩
  | n + 1, hn => by
    obtain ⟨i1, i2⟩ := wk2_e hv hW n (by omega)
    have hb := wkI_le (g := g) (W := W) hv.2.1 n
    have c0 := clN_le (Vk_of hv) n 0
    have c1 := clN_le (Vk_of hv) n 1
    have e : rwk g (n + 1) = (if (rwk g n).2 < itN g n then some n else (rwk g n).1, if (rwk g n).2 < itN g n then itN g n else (rwk g n).2) := rfl
    rw [e]
    cases ht : told g n with
    | true =>
      have k0 : cF (kA g) 0 W.2.2.2.1 (tSg g (wD g W n)) = clN g n 0 := by rw [cl_e hv hW (by omega)]; unfold clN; rw [if_pos ht]
      have k1 : cF (kA g) 1 W.2.2.2.1 (tSg g (wD g W n)) = clN g n 1 := by rw [cl_e hv hW (by omega)]; unfold clN; rw [if_pos ht]
      have ei : itN g n = 1000 * clN g n 0 + clN g n 1 := rfl
      cases hw : wkB (wkI g W n) (cF (kA g) 0 W.2.2.2.1 (tSg g (wD g W n))) (cF (kA g) 1 W.2.2.2.1 (tSg g (wD g W n))) with
      | true =>
        rw [wkI_t (by omega) ht hw]
        rw [k0, k1] at hw ⊢
        unfold wkB at hw
        simp only [Bool.or_eq_true, Bool.and_eq_true, decide_eq_true_eq] at hw
        have : (rwk g n).2 < itN g n := by rw [← i2, ei]; omega
        rw [if_pos this, if_pos this]
        exact ⟨rfl, rfl⟩
      | false =>
        rw [wkI_n hw]
        rw [k0, k1] at hw
        unfold wkB at hw
        simp only [Bool.or_eq_false_iff, Bool.and_eq_false_iff, decide_eq_false_iff_not] at hw
        have : ¬ (rwk g n).2 < itN g n := by rw [← i2, ei]; omega
        rw [if_neg this, if_neg this]
        exact ⟨i1, i2⟩
    | false =>
      rw [wkI_f (fun q => by rw [ht] at q; cases q.2)]
      have : itN g n = 0 := by
        unfold itN clN
        rw [if_neg (by rw [ht]; decide), if_neg (by rw [ht]; decide)]
      rw [this, if_neg (Nat.not_lt_zero _), if_neg (Nat.not_lt_zero _)]
      exact ⟨i1, i2⟩
theorem wkI_hi {g : Nat → Nat} {W : TC} : ∀ j, wkI g W (kL g + j) = wkI g W (kL g)
  | 0 => rfl
  | j + 1 => by
    show wkI g W ((kL g + j) + 1) = _
    rw [wkI_f (fun q => by omega), wkI_hi j]
theorem e_WE {g : Nat → Nat} (hv : Vg g) {W : TC} (hW : WOK g W) : optI (wkI g W 24).1 = optI (rwk g (kL g)).1 := by
  rw [show 24 = kL g + (24 - kL g) by have := hv.1; omega, wkI_hi, (wk2_e hv hW _ (Nat.le_refl _)).1]
theorem told_add {g : Nat → Nat} (hv : Vg g) {x y d i : Nat} (hx : x < 14) (hy : y < 14) (hi : i < kL g + 1) : told (gAdd g x y 1 d) i = if i = kL g then hasB g x y else told g i := by
  have hk := hv.1
  have e : ∀ z, z < 14 → gAdd g x y 1 d z = g z := fun z hz => add_o (by omega) (by omega)
  unfold told hasCk hasB
  rw [add_ln (by decide), add_ln (by decide), add_ln (by decide)]
  by_cases h : i = kL g
  · rw [if_pos h, if_pos h, if_pos h, if_pos h]
    simp [e _ hx, e _ hy]
  · obtain ⟨-, x0, x1, -⟩ := Vk_x (Vk_of hv) (show i < kL g by omega)
    rw [if_neg h, if_neg h, if_neg h, if_neg h, e _ x0, e _ x1]
theorem dst_add {g : Nat → Nat} (hv : Vg g) {x y d : Nat} (hx : x < 14) (hy : y < 14) {d' : Nat} (hd : d' < 4) : dst (gAdd g x y 1 d) d' = if hasB g x y = true ∧ d' = d then jnN (dst g d') x y 1 else dst g d' := by
  have hk := hv.1
  have hlow : ∀ i, i < kL g → lnC (gAdd g x y 1 d) i 0 = lnC g i 0 ∧ lnC (gAdd g x y 1 d) i 1 = lnC g i 1 ∧ lnC (gAdd g x y 1 d) i 2 = lnC g i 2 := fun i hi => by
    rw [add_ln (by decide), add_ln (by decide), add_ln (by decide), if_neg (by omega), if_neg (by omega), if_neg (by omega)]
    exact ⟨rfl, rfl, rfl⟩
  have e0 : dstF (gAdd g x y 1 d) (pL (gAdd g x y 1 d) d') (clV d') (kL g) = dst g d' := dF_c (fun i hi => by
    unfold pL
    rw [told_add hv hx hy (by omega), if_neg (by omega), add_ln (by decide), if_neg (by omega)]) hlow
  have ek : dst (gAdd g x y 1 d) d' = dstF (gAdd g x y 1 d) (pL (gAdd g x y 1 d) d') (clV d') (kL g + 1) := by unfold dst; rw [add_k]
  rw [ek]
  unfold dstF
  rw [e0]
  have ep : pL (gAdd g x y 1 d) d' (kL g) = (hasB g x y && decide (d = d')) := by
    unfold pL
    rw [told_add hv hx hy (by omega), if_pos rfl, add_ln (by decide), if_pos rfl]
    have : (d' == 4) = false := by simp; omega
    rw [this]
    simp [beq_d]
  have l0 : lnC (gAdd g x y 1 d) (kL g) 0 = x := by rw [add_ln (by decide), if_pos rfl]; rfl
  have l1 : lnC (gAdd g x y 1 d) (kL g) 1 = y := by rw [add_ln (by decide), if_pos rfl]; rfl
  have l2 : lnC (gAdd g x y 1 d) (kL g) 2 = 1 := by rw [add_ln (by decide), if_pos rfl]; rfl
  rw [ep, l0, l1, l2]
  by_cases h : hasB g x y = true ∧ d' = d
  · rw [if_pos h, if_pos (by rw [h.1, h.2]; simp)]
  · rw [if_neg h, if_neg (by simp; intro q1 q2; exact h ⟨q1, q2.symm⟩)]
theorem gn_e {g : Nat → Nat} (hv : Vg g) {W : TC} (hW : WOK g W) {x y d : Nat} (hx : x < 14) (hy : y < 14) (hxy : x ≠ y) (hd : d < 4) (hb : hasB g x y = true) : cF (kA g) 3 W.2.2.2.1 (tSg g (jD W.1 d x y 1)) = gnN g x y d := by
  have hk := Vk_of hv
  refine cF_e hW (fun al z ha hz => FS_D (Vk_add hv hx hy hxy hd) (kA_add hv.1) (fun j c => add_o (by omega) (by have := hv.1; omega)) (fun d' hd' => ?_) ha hz)
  rw [dst_add hv hx hy hd']
  unfold jD
  funext a b
  by_cases h : d' = d
  · subst h
    rw [if_pos ⟨hb, rfl⟩, if_pos rfl, hW.1 d' (by omega)]
  · rw [if_neg (fun q => h q.2), if_neg h, hW.1 d' (by omega)]
theorem gn_0 {g : Nat → Nat} (hv : Vg g) {x y d : Nat} (hx : x < 14) (hy : y < 14) (hxy : x ≠ y) (hd : d < 4) (hb : hasB g x y = false) : gnN g x y d = 0 := by
  have hk := Vk_of hv
  unfold gnN cgN
  have key : ∀ n, n ≤ 14 * kA g → cntB (fun k => chB 3 (fsK g k) (fsK (gAdd g x y 1 d) k)) n = 0 := by
    intro n
    induction n with
    | zero => intro _; rfl
    | succ n ih =>
      intro hn
      rw [cntB_f, ih (by omega)]
      have e : fsK (gAdd g x y 1 d) n = fsK g n := by
        unfold fsK
        have ha : n / 14 < kA g := by omega
        rw [FS_D (g := g) (Vk_add hv hx hy hxy hd) (kA_add hv.1) (fun j c => add_o (by omega) (by have := hv.1; omega)) (D := dst g) (fun d' hd' => by rw [dst_add hv hx hy hd', if_neg (by rw [hb]; simp)]) ha (by omega), (fin_e hk ha (by omega)).1]
      rw [e]
      exact Bool.eq_false_iff.mpr (fun q => by have := chB_iff.mp q; omega)
  exact key _ (Nat.le_refl _)
theorem cjB_e {g : Nat → Nat} (hv : Vk g) {W : TC} (hW : WOK g W) {x y d : Nat} (hx : x < 14) (hy : y < 14) (hd : d < 4) : cjB g W x y d = (myB g d x y && hasB g x y) := by
  have hl := Vk_l hv
  unfold cjB myB
  rw [hW.2.1, bit_d hl (by decide) hx, bit_d hl hd hx, bit_d hl hd hy]
  cases inn g 0 x <;> cases inn g d x <;> cases inn g d y <;> cases hasB g x y <;> rfl
theorem myB_ne {g : Nat → Nat} {x y d : Nat} (h : myB g d x y = true) : x ≠ y := by
  rintro rfl
  unfold myB at h
  cases q : inn g d x <;> rw [q] at h <;> simp at h
def bgR (r : Nat × Option (Nat × Nat)) (s : Option Nat × Nat) : Prop := r.1 = s.2 ∧ (r.2 = none ↔ r.1 = 0) ∧ s.1 = r.2.map (fun q => 14 * q.1 + q.2) ∧ ∀ q, r.2 = some q → q.1 < 14 ∧ q.2 < 14
theorem bgJ_e {g : Nat → Nat} (hv : Vg g) {W : TC} (hW : WOK g W) {d i : Nat} (hd : d < 4) (hi : i < 14) {r : Nat × Option (Nat × Nat)} (h : bgR r (rbg g d (14 * i))) : ∀ j, j ≤ 14 → bgR (bgJ g W d i r j) (rbg g d (14 * i + j))
  | 0, _ => h
  | j + 1, hj => by
    have ih := bgJ_e hv hW hd hi h j (by omega)
    have hk := Vk_of hv
    have e : rbg g d (14 * i + j + 1) = (if (rbg g d (14 * i + j)).2 < ibN g d (14 * i + j) then some (14 * i + j) else (rbg g d (14 * i + j)).1, if (rbg g d (14 * i + j)).2 < ibN g d (14 * i + j) then ibN g d (14 * i + j) else (rbg g d (14 * i + j)).2) := rfl
    show bgR (bgJ g W d i r (j + 1)) (rbg g d (14 * i + j + 1))
    rw [e]
    have ei : ibN g d (14 * i + j) = if myB g d i j = true then gnN g i j d else 0 := by
      unfold ibN
      rw [show (14 * i + j) / 14 = i by omega, show (14 * i + j) % 14 = j by omega]
    have ec := cjB_e hk hW hi (show j < 14 by omega) hd
    obtain ⟨i1, i2, i3, i4⟩ := ih
    cases hc : cjB g W i j d with
    | false =>
      rw [bgJ_f hc]
      have e0 : ibN g d (14 * i + j) = 0 := by
        rw [ei]
        split
        · rename_i hm
          rw [hc, hm, Bool.true_and] at ec
          exact gn_0 hv hi (by omega) (myB_ne hm) hd ec.symm
        · rfl
      rw [e0, if_neg (Nat.not_lt_zero _), if_neg (Nat.not_lt_zero _)]
      exact ⟨i1, i2, i3, i4⟩
    | true =>
      rw [hc] at ec
      have ec := ec.symm
      simp only [Bool.and_eq_true] at ec
      have eg := gn_e hv hW hi (show j < 14 by omega) (myB_ne ec.1) hd ec.2
      rw [if_pos ec.1] at ei
      by_cases hlt : (bgJ g W d i r j).1 < cF (kA g) 3 W.2.2.2.1 (tSg g (jD W.1 d i j 1))
      · rw [bgJ_t hc hlt]
        rw [eg] at hlt ⊢
        have hlt2 : (rbg g d (14 * i + j)).2 < ibN g d (14 * i + j) := by rw [ei, ← i1]; exact hlt
        rw [if_pos hlt2, if_pos hlt2, ei]
        refine ⟨rfl, ⟨fun q => (by cases q), fun q => (by have q : gnN g i j d = 0 := q; omega)⟩, rfl, fun q hq => (by cases hq; exact ⟨hi, by show j < 14; omega⟩)⟩
      · rw [bgJ_n hlt]
        rw [eg] at hlt
        have hlt2 : ¬ (rbg g d (14 * i + j)).2 < ibN g d (14 * i + j) := by rw [ei, ← i1]; exact hlt
        rw [if_neg hlt2, if_neg hlt2]
        exact ⟨i1, i2, i3, i4⟩
theorem bgI_e {g : Nat → Nat} (hv : Vg g) {W : TC} (hW : WOK g W) {d : Nat} (hd : d < 4) : ∀ i, i ≤ 14 → bgR (bgI g W d i) (rbg g d (14 * i))
  | 0, _ => ⟨rfl, ⟨fun _ => rfl, fun _ => rfl⟩, rfl, fun q h => (by cases h)⟩
  | i + 1, hi => bgJ_e hv hW hd (by omega) (bgI_e hv hW hd i (by omega)) 14 (Nat.le_refl _)
theorem e_BG {g : Nat → Nat} (hv : Vg g) {W : TC} (hW : WOK g W) {d w : Int32} : aBG g W d w = rBG g d w := by
  have hc : (isDi d && !(decide (d = 0))) = inB d 1 3 := by
    rw [← inB_D]
    unfold inB
    have : decide (d < 1) = (decide (d < 0) || decide (d = 0)) := by
      rw [← Bool.decide_or]
      refine decide_eq_decide.mpr ?_
      rw [Int32.lt_iff_toInt_lt, Int32.lt_iff_toInt_lt, ← Int32.toInt_inj]
      show d.toInt < 1 ↔ d.toInt < 0 ∨ d.toInt = 0
      omega
    rw [this]
    cases decide (d < 0) <;> cases decide (d = 0) <;> cases decide (3 < d) <;> rfl
  unfold aBG rBG
  rw [hc]
  by_cases h : inB d 1 3 = true
  · rw [if_pos h, if_pos h]
    have hd := h
    rw [← hc] at hd
    simp only [Bool.and_eq_true] at hd
    obtain ⟨d0, hd0, rfl⟩ := isDi_n hd.1
    rw [nI_clamp (by omega)]
    obtain ⟨i1, i2, i3, i4⟩ := bgI_e hv hW hd0 14 (Nat.le_refl _)
    have i3 : (rbg g d0 196).1 = _ := i3
    have i1 : _ = (rbg g d0 196).2 := i1
    rw [← i1, i3]
    cases hr : (bgI g W d0 14).2 with
    | none => rw [if_pos (i2.mp hr)]; rfl
    | some q =>
      have hq := i4 q hr
      have hn : ¬ (bgI g W d0 14).1 = 0 := fun z => by rw [i2.mpr z] at hr; cases hr
      rw [if_neg hn]
      show (if w < 0 ∨ 2 < w then -2 else if w = 0 then nI q.1 else if w = 1 then nI q.2 else nI (bgI g W d0 14).1) = (if w < 0 ∨ 2 < w then -2 else if w = 0 then nI ((14 * q.1 + q.2) / 14) else if w = 1 then nI ((14 * q.1 + q.2) % 14) else nI (bgI g W d0 14).1)
      rw [show (14 * q.1 + q.2) / 14 = q.1 by omega, show (14 * q.1 + q.2) % 14 = q.2 by omega]
  · rw [if_neg h, if_neg h]
