/-! WHAT HOLDS AT THE LAW'S LOOP HEAD -/
def E7 (g g' : Nat → Nat) : Prop := ∀ j, j < 177 → g' j = g j
theorem E7_k {g g' : Nat → Nat} (h : E7 g g') (hv : Vg g) : kL g' = kL g ∧ kA g' = kA g ∧ (∀ x, x < 14 → g' x = g x) ∧ (∀ i c, i < kL g → c < 5 → lnC g' i c = lnC g i c) ∧ ∀ i c, i < kA g → c < 3 → alC g' i c = alC g i c := by
  have h1 := hv.1
  have h2 := hv.2.1
  exact ⟨h 14 (by omega), h 140 (by omega), fun x hx => h x (by omega), fun i c hi hc => h _ (by omega), fun i c hi hc => h _ (by omega)⟩
theorem kk_V {g g' : Nat → Nat} (h : kL g' = kL g ∧ kA g' = kA g ∧ (∀ x, x < 14 → g' x = g x) ∧ (∀ i c, i < kL g → c < 5 → lnC g' i c = lnC g i c) ∧ ∀ i c, i < kA g → c < 3 → alC g' i c = alC g i c) (hv : Vg g) : Vg g' := by
  obtain ⟨e1, e2, e3, e4, e5⟩ := h
  refine ⟨by rw [e1]; exact hv.1, by rw [e2]; exact hv.2.1, fun x hx => by rw [e3 x hx]; exact hv.2.2.1 x hx, fun i hi => ?_, fun i hi => ?_⟩
  · rw [e1] at hi
    rw [e4 i 0 hi (by decide), e4 i 1 hi (by decide), e4 i 2 hi (by decide), e4 i 3 hi (by decide), e4 i 4 hi (by decide)]
    exact hv.2.2.2.1 i hi
  · rw [e2] at hi
    rw [e5 i 0 hi (by decide), e5 i 1 hi (by decide), e5 i 2 hi (by decide)]
    exact hv.2.2.2.2 i hi
theorem kk_P {g g' : Nat → Nat} (h : kL g' = kL g ∧ kA g' = kA g ∧ (∀ x, x < 14 → g' x = g x) ∧ (∀ i c, i < kL g → c < 5 → lnC g' i c = lnC g i c) ∧ ∀ i c, i < kA g → c < 3 → alC g' i c = alC g i c) {P : PC} (hP : PR g P) : PR g' P := by
  obtain ⟨e1, e2, e3, e4, e5⟩ := h
  obtain ⟨p1, p2, p3, p4, p5⟩ := hP
  refine ⟨fun x hx => by rw [e3 x hx]; exact p1 x hx, fun i c hi hc => ?_, by rw [e1]; exact p3, fun i c hi hc => ?_, by rw [e2]; exact p5⟩
  · rw [e1] at hi
    rw [e4 i c hi hc]; exact p2 i c hi hc
  · rw [e2] at hi
    rw [e5 i c hi hc]; exact p4 i c hi hc
theorem E7_V {g g' : Nat → Nat} (h : E7 g g') (hv : Vg g) : Vg g' := kk_V (E7_k h hv) hv
theorem E7_P {g g' : Nat → Nat} (h : E7 g g') (hv : Vg g) {P : PC} (hP : PR g P) : PR g' P := kk_P (E7_k h hv) hP
theorem AG_P {g g' : Nat → Nat} (h : AG g g') (hv : Vg g) {P : PC} (hP : PR g P) : PR g' P := by
  obtain ⟨e1, e2, e3, e4, e5⟩ := AG_k h (by have := hv.1; omega)
  exact kk_P ⟨e1, e2, e3, e4, fun i c _ _ => e5 i c⟩ hP
theorem AG_W {g g' : Nat → Nat} (h : AG g g') (hv : Vg g) {W : TC} (hW : WOK g W) : WOK g' W := by
  have e := AG_k h (by have := hv.1; omega)
  have e2 := AG_dst h (Vk_of hv)
  have e3 := AG_FS h (Vk_of hv)
  obtain ⟨w1, w2, w3, w4, w5⟩ := hW
  unfold WOK
  rw [e2, e3.1, e3.2, e.2.1]
  exact ⟨w1, w2, w3, w4, w5⟩
theorem hs_lt {gh g : Nat → Nat} {n k : Nat} (h : n < 4) (hk : k < n) : E7 (hsl gh k) (hsl (rcH gh g n) k) := by
  intro j hj
  unfold hsl rcH cpI
  rw [if_neg (by omega)]
  try dsimp only
  rw [if_neg (by omega)]
theorem hs_at {gh g : Nat → Nat} {n : Nat} (h : n < 4) : E7 g (hsl (rcH gh g n) n) := by
  intro j hj
  unfold hsl rcH cpI
  rw [if_neg (by omega)]
  try dsimp only
  rw [if_pos (by omega)]
  exact congrArg g (by omega)
theorem hs_lt4 {gh g : Nat → Nat} {k : Nat} (hk : k < 3) : E7 (hsl gh (k + 1)) (hsl (rcH gh g 4) k) := by
  intro j hj
  unfold hsl rcH cpI shI'
  rw [if_pos rfl]
  try dsimp only
  rw [if_neg (by omega), if_pos (by omega)]
  exact congrArg gh (by omega)
theorem hs_at4 {gh g : Nat → Nat} : E7 g (hsl (rcH gh g 4) 3) := by
  intro j hj
  unfold hsl rcH cpI
  rw [if_pos rfl]
  try dsimp only
  rw [if_pos (by omega)]
  exact congrArg g (by omega)
/-- plan and reference's state, kept ones, history, text, totals -/
def IN (g : Nat → Nat) (P : PC) (kp : Bool) (Ps : PC) (gk : Nat → Nat) (HP : Nat → PC) (gh : Nat → Nat) (hn : Nat) (t : Nat → Nat) (tn : Nat) (W1 W2 : TC) (st : Bool) : Prop :=
  PR g P ∧ Vg g ∧ (∀ n, n < hn → PR (hsl gh n) (HP n) ∧ Vg (hsl gh n)) ∧ hn ≤ 4 ∧ (kp = true → PR gk Ps ∧ Vg gk) ∧ tn ≤ 60 ∧ (∀ k, k < tn → t k < 65536) ∧ TBT W1 ∧ TBT W2 ∧ (st = false → WOK g W1)
section
variable {g : Nat → Nat} {P : PC} {kp : Bool} {Ps : PC} {gk : Nat → Nat} {HP : Nat → PC} {gh : Nat → Nat} {hn : Nat} {t : Nat → Nat} {tn : Nat} {W1 W2 : TC} {st : Bool}
theorem hN_rc (h : hn ≤ 4) : hN hn = rcN hn := by
  unfold hN rcN
  by_cases h4 : hn = 4
  · subst h4; rfl
  · rw [if_pos (by omega), if_neg h4]
theorem IN_W (h : IN g P kp Ps gk HP gh hn t tn W1 W2 st) : WOK g (wK g st W1) := by
  obtain ⟨-, hv, -, -, -, -, -, -, -, hw⟩ := h
  cases st with
  | true => exact WOK_of hv W1
  | false => exact hw rfl
theorem IN_rec (h : IN g P kp Ps gk HP gh hn t tn W1 W2 st) {g' : Nat → Nat} {P' : PC} (hP9 : PR g' P') (hv' : Vg g') : IN g' P' kp Ps gk (hP' HP hn P) (rcH gh g hn) (rcN hn) t tn W1 W2 true := by
  obtain ⟨hP, hv, hh, h4, hk, ht, hc, hW1, hW2, hw⟩ := h
  refine ⟨hP9, hv', fun n hn' => ?_, by unfold rcN; split <;> omega, hk, ht, hc, hW1, hW2, fun q => by cases q⟩
  unfold rcN at hn'
  unfold hP'
  by_cases e4 : hn = 4
  · subst e4
    rw [if_pos rfl] at hn'
    rw [if_neg (by decide)]
    unfold updP rot
    by_cases e3 : n = 3
    · subst e3
      rw [if_pos rfl]
      exact ⟨E7_P hs_at4 hv hP, E7_V hs_at4 hv⟩
    · rw [if_neg e3, if_neg e3]
      obtain ⟨q1, q2⟩ := hh (n + 1) (by omega)
      exact ⟨E7_P (hs_lt4 (by omega)) q2 q1, E7_V (hs_lt4 (by omega)) q2⟩
  · rw [if_neg e4] at hn'
    rw [if_pos (by omega)]
    unfold updP
    by_cases e3 : n = hn
    · subst e3
      rw [if_pos rfl]
      exact ⟨E7_P (hs_at (by omega)) hv hP, E7_V (hs_at (by omega)) hv⟩
    · rw [if_neg e3]
      obtain ⟨q1, q2⟩ := hh n (by omega)
      exact ⟨E7_P (hs_lt (by omega) (by omega)) q2 q1, E7_V (hs_lt (by omega) (by omega)) q2⟩
theorem IN_q (h : IN g P kp Ps gk HP gh hn t tn W1 W2 st) {W9 : TC} (h9 : TBT W9) : IN g P kp Ps gk HP gh hn t tn (wK g st W1) W9 false := by
  have hw := IN_W h
  obtain ⟨hP, hv, hh, h4, hk, ht, hc, hW1, hW2, -⟩ := h
  exact ⟨hP, hv, hh, h4, hk, ht, hc, wK_TBT hv hW1, h9, fun _ => hw⟩
theorem IN_w (h : IN g P kp Ps gk HP gh hn t tn W1 W2 st) {W9 : TC} (h9 : TBT W9) : IN g P kp Ps gk HP gh hn t tn W1 W9 st := by
  obtain ⟨hP, hv, hh, h4, hk, ht, hc, hW1, hW2, hw⟩ := h
  exact ⟨hP, hv, hh, h4, hk, ht, hc, hW1, h9, hw⟩
theorem IN_AG (h : IN g P kp Ps gk HP gh hn t tn W1 W2 st) {g' : Nat → Nat} (hg : AG g g') : IN g' P kp Ps gk HP gh hn t tn W1 W2 st := by
  obtain ⟨hP, hv, hh, h4, hk, ht, hc, hW1, hW2, hw⟩ := h
  exact ⟨AG_P hg hv hP, AG_V hg hv, hh, h4, hk, ht, hc, hW1, hW2, fun q => AG_W hg hv (hw q)⟩
end
theorem taI_ok {t : Nat → Nat} {n : Nat} : ∀ (j : Nat) (T : T7) (g : Nat → Nat) (P : PC) (k : Nat), PR g P → Vg g → PR (taI t n j T g P k).2.2.2.1 (taI t n j T g P k).2.2.2.2 ∧ Vg (taI t n j T g P k).2.2.2.1
  | 0, T, g, P, k, hP, hv => ⟨hP, hv⟩
  | j + 1, T, g, P, k, hP, hv => by
    by_cases h : T.1.1 < n
    · by_cases h2 : tpR g (rdP t n T) = 0
      · rw [taI_g h h2]
        obtain ⟨q1, q2⟩ := tp_ok hP hv (rdP_ok (t := t) (n := n) (T := T)) h2
        exact taI_ok j _ _ _ _ q1 q2
      · rw [taI_r h h2]
        exact ⟨hP, hv⟩
    · rw [taI_n h]
      exact ⟨hP, hv⟩
/-- the two worlds, of one history -/
def IV (G : GG) (a r : Nat) (wc wm : va_W) : Prop := ∃ (ad q : Nat → Nat → Nat) (P Pd Ps : PC) (kp : Bool) (HP : Nat → PC) (hn : Nat) (t : Nat → Nat) (tn : Nat) (T : T7) (W1 W2 : TC) (st : Bool) (g : Nat → Nat) (m : Nat → Nat) (ga gh gk iz wy wa tt rr we : Nat → Nat) (sp : Nat) (wr : Bool) (er : Int32), ad 0 0 = a ∧ m 0 = r ∧ wc = cls G ad q P Pd Ps kp HP hn t tn T W1 W2 st ∧ wm = (mB G m g ga gh hn gk kp t tn iz wy wa tt rr we sp wr er).flatten ∧ IN g P kp Ps gk HP gh hn t tn W1 W2 st
theorem IV_6 {G : GG} {a r : Nat} {wc wm : va_W} (h : IV G a r wc wm) : ∃ (fs : List Value) (k0 : Nat), wc[k0]? = some (a, .inr (6, fs)) := by
  obtain ⟨ad, q, P, Pd, Ps, kp, HP, hn, t, tn, T, W1, W2, st, g, m, ga, gh, gk, iz, wy, wa, tt, rr, we, sp, wr, er, rfl, rfl, rfl, rfl, hI⟩ := h
  exact ⟨_, 0, rfl⟩
theorem IV_7 {G : GG} {a r : Nat} {wc wm : va_W} (h : IV G a r wc wm) : ∃ (fs : List Value) (k0 : Nat), wm[k0]? = some (r, .inr (7, fs)) := by
  obtain ⟨ad, q, P, Pd, Ps, kp, HP, hn, t, tn, T, W1, W2, st, g, m, ga, gh, gk, iz, wy, wa, tt, rr, we, sp, wr, er, rfl, rfl, rfl, rfl, hI⟩ := h
  exact ⟨_, 0, rfl⟩
theorem IV_0 {G : GG} {ad qq : Nat → Nat → Nat} {m : Nat → Nat} : IV G (ad 0 0) (m 0) (cls G ad qq P00 P00 P00 false (fun _ => P00) 0 (fun _ => 0) 0 T00 W00 W00 true) (mB G m (rk0 14) (fun _ => 0) (fun _ => 0) 0 (fun _ => 0) false (fun _ => 0) 0 (fun _ => 0) (fun _ => 0) (fun _ => 0) (fun _ => 0) (fun _ => 0) (fun _ => 0) 0 false 0).flatten := by
  refine ⟨ad, qq, P00, P00, P00, false, fun _ => P00, 0, fun _ => 0, 0, T00, W00, W00, true, rk0 14, m, _, _, _, _, _, _, _, _, _, _, _, _, rfl, rfl, rfl, rfl, ?_⟩
  have kl : kL (rk0 14) = 0 := rfl
  have ka : kA (rk0 14) = 0 := rfl
  have tb : TBT W00 := ⟨⟨fun d x y _ _ _ => Nat.zero_le _, fun _ _ => Nat.zero_lt_succ _, fun _ _ => Nat.zero_lt_succ _, fun _ _ => Nat.zero_le _, fun _ _ => Nat.zero_le _⟩, Nat.zero_le _⟩
  refine ⟨⟨fun x hx => rfl, fun i c hi _ => ?_, rfl, fun i c hi _ => ?_, rfl⟩, ⟨by rw [kl]; decide, by rw [ka]; decide, fun x hx => ?_, fun i hi => ?_, fun i hi => ?_⟩, fun n hn => absurd hn (Nat.not_lt_zero _), by decide, (fun h => by cases h), by decide, fun k hk => absurd hk (Nat.not_lt_zero _), tb, tb, (fun h => by cases h)⟩
  · rw [kl] at hi; exact absurd hi (Nat.not_lt_zero _)
  · rw [ka] at hi; exact absurd hi (Nat.not_lt_zero _)
  · unfold rk0; split <;> decide
  · rw [kl] at hi; exact absurd hi (Nat.not_lt_zero _)
  · rw [ka] at hi; exact absurd hi (Nat.not_lt_zero _)
