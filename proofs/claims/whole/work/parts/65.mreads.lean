/-! THE REFERENCE READS PARTS -/
section ZQ3
variable {p : Program} {l : Launch} {e : Env} {R : Room} {s : State} {m : MethodId} {args : Array Value} {below : List Frame} {meth : Method} {c : Code} {G : GG} {A : Nat → Prop} {cells slots : Nat} {Q : State → Prop} {bs : List va_W} {lo : List (Option Value)} {pc : Nat} {st : List Value} {cc : ByteArray} {own : String} {nL : Nat}
/-- a count, the place, whether it is wrong, the error and the state, for which C holds -/
def zR (G : GG) (m : Nat → Nat) (ga gh : Nat → Nat) (kn : Nat) (gk : Nat → Nat) (kp : Bool) (tx : Nat → Nat) (ln : Nat) (iz wy wa tt rr we : Nat → Nat) (Co : Nat → Nat → Bool → Int32 → (Nat → Nat) → Prop) : Option Value → va_W → Prop := fun v' w' => ∃ k p w e g', Co k p w e g' ∧ v' = some (.int (nI k)) ∧ w' = (mB G m g' ga gh kn gk kp tx ln iz wy wa tt rr we p w e).flatten
theorem zq_callR2 {y : MethodName} {cy : ByteArray} {maxL fr lc index n : Nat} {rt : Option FieldType} {b : Nat} {As : List Value} {m' : Nat → Nat} {ga gh : Nat → Nat} {kn : Nat} {gk : Nat → Nat} {kp : Bool} {tx : Nat → Nat} {ln : Nat} {iz wy wa tt rr we : Nat → Nat} {Co : Nat → Nat → Bool → Int32 → (Nat → Nat) → Prop} (C : zC p s m args c cc own nL G A) (hV : zV own index y cy maxL rt n) (hM : zX l G y cy maxL rt fr lc 0 0 (.ref b :: As) bs.flatten (zR G m' ga gh kn gk kp tx ln iz wy wa tt rr we Co)) (hd : decode cc pc = .ok (.invokevirtual index, 3)) {st0 : List Value} (hst : st0 = As.reverse ++ .ref b :: st) (hR : (Nat.ble (fr + 1) R.frames && Nat.ble (8 + (maxL + 11) + lc) R.locals) = true) (hn : As.length = n) (hcap : Nat.ble (st.map fun v => v.category).sum 8 = true) (hcs : (Nat.ble cells R.cells && Nat.ble slots R.slots) = true) (hnl : lo.length = nL) {ci : Nat} {fs : List Value} {q : vw_C} (hrec : ∃ k0 : Nat, bs.flatten[k0]? = some (b, .inr (ci, fs))) (hci : vwCl[ci]? = some q) (hqc : q.1 = y.cls) (k : ∀ k p9 w9 e9 g', Co k p9 w9 e9 g' → Zj p l e R s m args below meth c G A cells slots Q (mB G m' g' ga gh kn gk kp tx ln iz wy wa tt rr we p9 w9 e9) lo (pc + 3) (.int (nI k) :: st)) : Zj p l e R s m args below meth c G A cells slots Q bs lo pc st0 := by
  refine zj_callR (rest := []) C hV hM hd (by rw [List.append_nil]) hst hR hn hcap hcs hnl hrec hci hqc (fun v w1 hq => ?_)
  obtain ⟨k', p', w', e', g', hC, rfl, rfl⟩ := hq
  exact zj_blk (bs' := mB G m' g' ga gh kn gk kp tx ln iz wy wa tt rr we p' w' e') (by simp) (k k' p' w' e' g' hC)
end ZQ3
theorem rdS_ge {t : Nat → Nat} {n c : Nat} {s : Nat × Bool} : s.1 ≤ (rdS t n c s).1 := by
  unfold rdS
  split
  · exact Nat.le_succ _
  · exact Nat.le_refl _
theorem rdN_ge {t : Nat → Nat} {n lo hi : Nat} {s : Nat × Bool} : s.1 ≤ (rdN t n lo hi s).2.1 := by
  unfold rdN
  split
  · exact Nat.le_refl _
  · split
    · exact Nat.le_refl _
    · split
      · exact Nat.le_refl _
      · split
        · exact Nat.le_succ _
        · split
          · exact Nat.le_trans (Nat.le_succ _) (Nat.le_succ _)
          · exact Nat.le_succ _
theorem rdAl_ge {t : Nat → Nat} {n : Nat} {s : Nat × Bool} : s.1 ≤ (rdAl t n s).2.1 := Nat.le_trans rdS_ge (Nat.le_trans rdN_ge (Nat.le_trans rdS_ge (Nat.le_trans rdN_ge (Nat.le_trans rdS_ge rdN_ge))))
theorem rdLn_ge {t : Nat → Nat} {n : Nat} {s : Nat × Bool} : s.1 ≤ (rdLn t n s).2.1 := Nat.le_trans rdN_ge (Nat.le_trans rdS_ge (Nat.le_trans rdN_ge (Nat.le_trans rdS_ge (Nat.le_trans rdN_ge (Nat.le_trans rdS_ge rdN_ge)))))
theorem rdS_out {t : Nat → Nat} {n c p : Nat} {w : Bool} (h : n ≤ p) : rdS t n c (p, w) = (p, true) := if_neg (fun q => by have := q.2.1; simp only at this; omega)
theorem rdN_out {t : Nat → Nat} {n lo hi p : Nat} {w : Bool} (h : n ≤ p) : rdN t n lo hi (p, w) = (0, (p, true)) := by
  unfold rdN
  split
  · rfl
  · have e : dg t n (p, w).1 = none := if_neg (fun q => by have := q.1; simp only at this; omega)
    rw [e]
theorem rdLn_out {t : Nat → Nat} {n p : Nat} {w : Bool} (h : n ≤ p) : (rdLn t n (p, w)).2 = (p, true) := by
  unfold rdLn
  simp only [rdN_out h, rdS_out h]
def er3 (dn : Bool) (g : Nat → Nat) (e : Int32) (T : T7) : Int32 := if dn && decide (e = 0) then tpR g T else e
def rpG (dn : Bool) (g : Nat → Nat) (e : Int32) (T : T7) : Nat → Nat := if dn && decide (er3 dn g e T = 0) then tpG g T else g
def rpP (dn : Bool) (g : Nat → Nat) (e : Int32) (T : T7) (P : PC) : PC := if dn && decide (er3 dn g e T = 0) then tpP g P T else P
theorem isC_t {j : Nat} (h : j < 14) : isC (nI j) = true := by
  have h1 : ¬ nI j < 0 := nI_pos (by omega)
  have h2 : ¬ (14 : Int32) ≤ nI j := fun q => by have := (nI_leI (a := 14) (b := j) (by decide) (by omega)).mp q; omega
  unfold isC
  simp [h1, h2]
theorem isDi_t {j : Nat} (h : j < 4) : isDi (nI j) = true := by
  have h1 : ¬ nI j < 0 := nI_pos (by omega)
  have h2 : ¬ (4 : Int32) ≤ nI j := fun q => by have := (nI_leI (a := 4) (b := j) (by decide) (by omega)).mp q; omega
  unfold isDi
  simp [h1, h2]
theorem erA_n {k c l d : Nat} (hc : c < 14) (hd : d < 4) : erA k (nI c) (nI l) (nI d) = refA k (nI l) := if_pos (by rw [isC_t hc, isDi_t hd]; rfl)
theorem erL_n {k c c2 l d : Nat} (hc : c < 14) (hc2 : c2 < 14) (hd : d < 4) : erL k (nI c) (nI c2) (nI l) (nI d) = refL k (nI c) (nI c2) (nI l) := if_pos (by rw [isC_t hc, isC_t hc2, isDi_t hd]; rfl)
abbrev F60 (t : Nat → Nat) (n : Nat) (X : Bool × Nat × Nat × Nat × Nat) : Option Nat := ffR t n 60 ((0, false), X)
abbrev A60 (t : Nat → Nat) (n : Nat) (X : Bool × Nat × Nat × Nat × Nat) (g0 : Nat → Nat) (P0 : PC) : (Option Int32) × Nat × T7 × (Nat → Nat) × PC := taI t n 60 ((0, false), X) g0 P0 0
def RI (t : Nat → Nat) (n : Nat) (dn : Bool) (X : Bool × Nat × Nat × Nat × Nat) (g0 : Nat → Nat) (P0 : PC) (sp k : Nat) (gq : Nat → Nat) (S : Int32 × Nat × T7 × PC) : Prop :=
  sp ≤ 60 ∧ PR gq S.2.2.2 ∧ Vg gq ∧ (dn = false → gq = g0) ∧
  ((S.2.2.1.1 = (sp, false) ∧ (sp < n ∨ sp = 0) ∧ 60 ≤ S.2.1 + sp ∧ F60 t n X = ffR t n S.2.1 S.2.2.1 ∧
     (dn = true → F60 t n X = none → (S.1 = 0 ∧ A60 t n X g0 P0 = taI t n S.2.1 S.2.2.1 gq S.2.2.2 k) ∨ (S.1 ≠ 0 ∧ (A60 t n X g0 P0).1 = some S.1)))
   ∨ (n ≤ sp ∧ F60 t n X = some sp))
def RC (t : Nat → Nat) (n : Nat) (dn : Bool) (X : Bool × Nat × Nat × Nat × Nat) (g0 : Nat → Nat) (P0 : PC) (k p : Nat) (w : Bool) (e : Int32) (g' : Nat → Nat) : Prop :=
  (w = true → F60 t n X = some p) ∧ (w = false → F60 t n X = none) ∧ (dn = false → g' = g0) ∧ (dn = true → F60 t n X = none → (e = 0 ∧ (A60 t n X g0 P0).1 = none ∧ (A60 t n X g0 P0).2.1 = k ∧ (A60 t n X g0 P0).2.2.2.1 = g') ∨ (e ≠ 0 ∧ (A60 t n X g0 P0).1 = some e))
theorem ff_stk {t : Nat → Nat} {n j : Nat} {T : T7} (h : T.1.2 = true) : ffR t n j T = some T.1.1 := by
  cases j with
  | zero => rfl
  | succ j => exact (ff_st h).1
theorem taI_end {t : Nat → Nat} {n j k : Nat} {T : T7} {g : Nat → Nat} {P : PC} (h : ¬ T.1.1 < n) : taI t n j T g P k = (none, k, T, g, P) := by
  cases j with
  | zero => rfl
  | succ j => exact taI_n h
/-- where a part ends, from a head of the loop -/
def s1P (t : Nat → Nat) (n sp : Nat) : Nat × Bool := if isA t n (sp, false) then (rdAl t n (sp, false)).2 else (rdLn t n (sp, false)).2
theorem s1P_b {t : Nat → Nat} {n sp : Nat} (hn : n ≤ 60) (h : sp ≤ 60) : sp ≤ (s1P t n sp).1 ∧ (s1P t n sp).1 ≤ 60 := by
  unfold s1P
  split
  · exact ⟨rdAl_ge (s := (sp, false)), rdAl_le h hn⟩
  · exact ⟨rdLn_ge (s := (sp, false)), rdLn_le h hn⟩
theorem s1P_out {t : Nat → Nat} {n sp : Nat} (h : n ≤ sp) : s1P t n sp = (sp, true) := by
  unfold s1P
  have e : isA t n (sp, false) = false := by unfold isA; simp; omega
  rw [e]
  exact rdLn_out h
theorem rdP_1 {t : Nat → Nat} {n sp : Nat} {T : T7} (h : T.1 = (sp, false)) : (rdP t n T).1 = sepS t n (s1P t n sp) := by
  unfold rdP s1P
  rw [h]
  split <;> rfl
/-- the numbers of a part -/
def TM (t : Nat → Nat) (n sp : Nat) : T7 := if isA t n (sp, false) then ((0, false), (false, (rdAl t n (sp, false)).1.1, 0, (rdAl t n (sp, false)).1.2.1, (rdAl t n (sp, false)).1.2.2)) else ((0, false), (true, (rdLn t n (sp, false)).1.1, (rdLn t n (sp, false)).1.2.1, (rdLn t n (sp, false)).1.2.2.1, (rdLn t n (sp, false)).1.2.2.2))
theorem TM_ok {t : Nat → Nat} {n sp : Nat} : T7ok (TM t n sp) := by
  unfold TM
  split
  · refine ⟨?_, fun h => (by cases h), ?_, ?_⟩
    · exact Nat.lt_succ_of_le (rdN_hi (hi := 13))
    · exact rdN_hi (hi := 20)
    · exact Nat.lt_succ_of_le (rdN_hi (hi := 3))
  · refine ⟨?_, fun _ => ?_, ?_, ?_⟩
    · exact Nat.lt_succ_of_le (rdN_hi (hi := 13))
    · exact Nat.lt_succ_of_le (rdN_hi (hi := 13))
    · exact rdN_hi (hi := 20)
    · exact Nat.lt_succ_of_le (rdN_hi (hi := 3))
theorem TM_e {t : Nat → Nat} {n sp : Nat} {T : T7} (h : T.1 = (sp, false)) (g : Nat → Nat) (P : PC) : tpR g (rdP t n T) = tpR g (TM t n sp) ∧ tpG g (rdP t n T) = tpG g (TM t n sp) ∧ tpP g P (rdP t n T) = tpP g P (TM t n sp) := by
  unfold rdP TM
  rw [h]
  split <;> exact ⟨rfl, rfl, rfl⟩
section RIs
variable {t : Nat → Nat} {n : Nat} {dn : Bool} {X : Bool × Nat × Nat × Nat × Nat} {g0 : Nat → Nat} {P0 : PC} {sp k : Nat} {gq : Nat → Nat} {S : Int32 × Nat × T7 × PC}
theorem RI_j (h : 60 ≤ S.2.1 + sp) (hn : n ≤ 60) (hs : sp < n) : ∃ i, S.2.1 = i + 1 := ⟨S.2.1 - 1, by omega⟩
theorem RI_1 (hn : n ≤ 60) (h : RI t n dn X g0 P0 sp k gq S) (hw : (s1P t n sp).2 = true) : F60 t n X = some (s1P t n sp).1 := by
  obtain ⟨h60, -, -, -, h | h⟩ := h
  · obtain ⟨hT, -, hj, hF, -⟩ := h
    rw [hF]
    have e1 := rdP_1 (t := t) (n := n) hT
    have e2 : sepS t n (s1P t n sp) = s1P t n sp := if_neg (fun q => by rw [hw] at q; cases q.1)
    rw [e2] at e1
    by_cases hj0 : S.2.1 = 0
    · rw [hj0]
      show some S.2.2.1.1.1 = _
      rw [hT, s1P_out (show n ≤ sp by omega)]
    · obtain ⟨i, hi⟩ : ∃ i, S.2.1 = i + 1 := ⟨S.2.1 - 1, by omega⟩
      rw [hi, (ff_go (by rw [hT]) (fun q => by rw [e1, hw] at q; cases q.1)).1, ff_stk (by rw [e1, hw]), e1]
  · rw [s1P_out h.1, h.2]
theorem RI_V (h : RI t n dn X g0 P0 sp k gq S) : PR (rpG dn gq S.1 (TM t n sp)) (rpP dn gq S.1 (TM t n sp) S.2.2.2) ∧ Vg (rpG dn gq S.1 (TM t n sp)) := by
  obtain ⟨-, hP, hv, -⟩ := h
  unfold rpG rpP
  by_cases c : (dn && decide (er3 dn gq S.1 (TM t n sp) = 0)) = true
  · rw [if_pos c, if_pos c]
    refine tp_ok hP hv TM_ok ?_
    simp only [Bool.and_eq_true, decide_eq_true_eq] at c
    obtain ⟨rfl, c⟩ := c
    unfold er3 at c
    by_cases c0 : S.1 = 0
    · rwa [if_pos (by simp [c0])] at c
    · rw [if_neg (by simp [c0])] at c
      exact absurd c c0
  · rw [if_neg c, if_neg c]
    exact ⟨hP, hv⟩
theorem RI_0 (h : RI t n dn X g0 P0 sp k gq S) (hd : dn = false) : rpG dn gq S.1 (TM t n sp) = g0 := by
  subst hd
  exact h.2.2.2.1 rfl
/-- the state after the part, where all is well -/
theorem RI_B (hn : n ≤ 60) (h : RI t n dn X g0 P0 sp k gq S) (hw : (s1P t n sp).2 = false) (hd : dn = true) (hF : F60 t n X = none) : (er3 dn gq S.1 (TM t n sp) = 0 ∧ A60 t n X g0 P0 = taI t n (S.2.1 - 1) (rdP t n S.2.2.1) (rpG dn gq S.1 (TM t n sp)) (rpP dn gq S.1 (TM t n sp) S.2.2.2) (k + 1)) ∨ (er3 dn gq S.1 (TM t n sp) ≠ 0 ∧ (A60 t n X g0 P0).1 = some (er3 dn gq S.1 (TM t n sp))) := by
  obtain ⟨h60, -, -, -, h | h⟩ := h
  · obtain ⟨hT, -, hj, -, hB⟩ := h
    have hs : sp < n := Nat.lt_of_not_le fun q => by rw [s1P_out q] at hw; cases hw
    obtain ⟨i, hi⟩ := RI_j hj hn hs
    obtain ⟨t1, t2, t3⟩ := TM_e (t := t) (n := n) hT gq S.2.2.2
    subst hd
    rw [hi]
    show (_ ∧ _ = taI t n i _ _ _ _) ∨ _
    rcases hB rfl hF with ⟨e0, hB⟩ | ⟨e0, hB⟩
    · rw [hi] at hB
      have e3 : er3 true gq S.1 (TM t n sp) = tpR gq (TM t n sp) := if_pos (by simp [e0])
      rw [e3]
      by_cases c : tpR gq (TM t n sp) = 0
      · left
        refine ⟨c, ?_⟩
        rw [hB, taI_g (by rw [hT]; exact hs) (by rw [t1]; exact c), t2, t3]
        unfold rpG rpP
        rw [e3, if_pos (by simp [c]), if_pos (by simp [c])]
      · right
        refine ⟨c, ?_⟩
        rw [hB, taI_r (by rw [hT]; exact hs) (by rw [t1]; exact c), t1]
    · right
      have e3 : er3 true gq S.1 (TM t n sp) = S.1 := if_neg (by simp [e0])
      rw [e3]
      exact ⟨e0, hB⟩
  · rw [hF] at h
    cases h.2
theorem RI_C (hn : n ≤ 60) (h : RI t n dn X g0 P0 sp k gq S) (he : ((!(s1P t n sp).2) && decide ((s1P t n sp).1 < n)) = false) : RC t n dn X g0 P0 (k + 1) (s1P t n sp).1 (s1P t n sp).2 (er3 dn gq S.1 (TM t n sp)) (rpG dn gq S.1 (TM t n sp)) := by
  have hnl : (s1P t n sp).2 = false → ¬ (s1P t n sp).1 < n := by
    intro q q2
    rw [q, decide_eq_true q2] at he
    cases he
  have hT' : ∀ q : (s1P t n sp).2 = false, S.2.2.1.1 = (sp, false) → (rdP t n S.2.2.1).1 = s1P t n sp := by
    intro q hT
    rw [rdP_1 hT]
    exact if_neg (fun z => hnl q z.2)
  refine ⟨RI_1 hn h, fun q => ?_, RI_0 h, fun hd hF => ?_⟩
  · obtain ⟨h60, -, -, -, h | h⟩ := h
    · obtain ⟨hT, -, hj, hF, -⟩ := h
      have hs : sp < n := Nat.lt_of_not_le fun q2 => by rw [s1P_out q2] at q; cases q
      obtain ⟨i, hi⟩ := RI_j hj hn hs
      rw [hF, hi]
      exact (ff_en (by rw [hT]) (by rw [hT' q hT]; exact q) (by rw [hT' q hT]; exact hnl q)).1
    · rw [s1P_out h.1] at q
      cases q
  · cases q : (s1P t n sp).2 with
    | true => rw [RI_1 hn h q] at hF; cases hF
    | false =>
      have hT : S.2.2.1.1 = (sp, false) := by
        obtain ⟨h60, -, -, -, h | h⟩ := h
        · exact h.1
        · rw [s1P_out h.1] at q; cases q
      rcases RI_B hn h q hd hF with ⟨e0, hB⟩ | ⟨e0, hB⟩
      · left
        rw [taI_end (by rw [hT' q hT]; exact hnl q)] at hB
        rw [hB]
        exact ⟨e0, rfl, rfl, rfl⟩
      · exact Or.inr ⟨e0, hB⟩
theorem RI_3 (hn : n ≤ 60) (h : RI t n dn X g0 P0 sp k gq S) (hw : (s1P t n sp).2 = false) (hl : (s1P t n sp).1 < n) (h2 : (rdS t n 59 ((s1P t n sp).1, false)).2 = true) : RC t n dn X g0 P0 (k + 1) (rdS t n 59 ((s1P t n sp).1, false)).1 true (er3 dn gq S.1 (TM t n sp)) (rpG dn gq S.1 (TM t n sp)) := by
  have e : rdS t n 59 ((s1P t n sp).1, false) = ((s1P t n sp).1, true) := by
    unfold rdS at h2 ⊢
    split at h2
    · cases h2
    · rename_i c; rw [if_neg c]
  have hF : F60 t n X = some (s1P t n sp).1 := by
    obtain ⟨h60, -, -, -, h | h⟩ := h
    · obtain ⟨hT, -, hj, hF, -⟩ := h
      have hs : sp < n := Nat.lt_of_not_le fun q2 => by rw [s1P_out q2] at hw; cases hw
      obtain ⟨i, hi⟩ := RI_j hj hn hs
      have e1 : (rdP t n S.2.2.1).1 = ((s1P t n sp).1, true) := by
        rw [rdP_1 hT]
        unfold sepS
        rw [if_pos ⟨hw, hl⟩, show s1P t n sp = ((s1P t n sp).1, false) from by rw [← hw], e]
        rfl
      rw [hF, hi, (ff_go (by rw [hT]) (fun q => by rw [e1] at q; cases q.1)).1, ff_stk (by rw [e1]), e1]
    · rw [s1P_out h.1] at hw
      cases hw
  rw [e]
  exact ⟨fun _ => hF, fun q => (by cases q), RI_0 h, fun _ q => (by rw [hF] at q; cases q)⟩
theorem RI_4 (hn : n ≤ 60) (h : RI t n dn X g0 P0 sp k gq S) (hw : (s1P t n sp).2 = false) (hl : (s1P t n sp).1 < n) (h2 : (rdS t n 59 ((s1P t n sp).1, false)).2 = false) : RI t n dn X g0 P0 (rdS t n 59 ((s1P t n sp).1, false)).1 (k + 1) (rpG dn gq S.1 (TM t n sp)) (er3 dn gq S.1 (TM t n sp), S.2.1 - 1, rdP t n S.2.2.1, rpP dn gq S.1 (TM t n sp) S.2.2.2) ∧ sp < (rdS t n 59 ((s1P t n sp).1, false)).1 := by
  have e : rdS t n 59 ((s1P t n sp).1, false) = ((s1P t n sp).1 + 1, false) := by
    unfold rdS at h2 ⊢
    split at h2
    · rename_i c; rw [if_pos c]
    · cases h2
  have hb := s1P_b (sp := sp) (t := t) hn h.1
  have hv := RI_V (t := t) (n := n) h
  have h0 := RI_0 (t := t) (n := n) h
  have hB := RI_B hn h hw
  rw [e]
  refine ⟨⟨by show (s1P t n sp).1 + 1 ≤ 60; omega, hv.1, hv.2, h0, ?_⟩, by show sp < (s1P t n sp).1 + 1; omega⟩
  obtain ⟨h60, -, -, -, h | h⟩ := h
  · obtain ⟨hT, -, hj, hF, -⟩ := h
    have hs : sp < n := Nat.lt_of_not_le fun q2 => by rw [s1P_out q2] at hw; cases hw
    obtain ⟨i, hi⟩ := RI_j hj hn hs
    have e1 : (rdP t n S.2.2.1).1 = ((s1P t n sp).1 + 1, !(decide ((s1P t n sp).1 + 1 < n))) := by
      rw [rdP_1 hT]
      unfold sepS
      rw [if_pos ⟨hw, hl⟩, show s1P t n sp = ((s1P t n sp).1, false) from by rw [← hw], e]
      rfl
    by_cases c : (s1P t n sp).1 + 1 < n
    · rw [decide_eq_true c] at e1
      have e1 : (rdP t n S.2.2.1).1 = ((s1P t n sp).1 + 1, false) := e1
      left
      refine ⟨e1, Or.inl c, by show 60 ≤ S.2.1 - 1 + ((s1P t n sp).1 + 1); omega, ?_, fun hd hF0 => hB hd hF0⟩
      show _ = ffR t n (S.2.1 - 1) (rdP t n S.2.2.1)
      rw [hF, hi]
      exact (ff_go (by rw [hT]) (fun q => q.2 (by rw [e1]; exact c))).1
    · rw [decide_eq_false c] at e1
      have e1 : (rdP t n S.2.2.1).1 = ((s1P t n sp).1 + 1, true) := e1
      right
      refine ⟨by show n ≤ (s1P t n sp).1 + 1; omega, ?_⟩
      rw [hF, hi, (ff_go (by rw [hT]) (fun q => by rw [e1] at q; cases q.1)).1, ff_stk (by rw [e1]), e1]
  · rw [s1P_out h.1] at hw
    cases hw
theorem RI_i {e0 : Int32} (hP : PR g0 P0) (hv : Vg g0) (he : e0 = 0) : RI t n dn X g0 P0 0 0 g0 (e0, 60, ((0, false), X), P0) := ⟨Nat.zero_le _, hP, hv, fun _ => rfl, Or.inl ⟨rfl, Or.inr rfl, Nat.le_refl _, rfl, fun _ _ => Or.inl ⟨he, rfl⟩⟩⟩
end RIs

