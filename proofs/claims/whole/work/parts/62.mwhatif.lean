/-! WHAT WOULD BE, IN THE REFERENCE -/
section ZQ2
variable {p : Program} {l : Launch} {e : Env} {R : Room} {s : State} {m : MethodId} {args : Array Value} {below : List Frame} {meth : Method} {c : Code} {G : GG} {A : Nat → Prop} {cells slots : Nat} {Q : State → Prop} {bs : List va_W} {lo : List (Option Value)} {pc : Nat} {st : List Value} {cc : ByteArray} {own : String} {nL : Nat}
theorem zq_callQ {y : MethodName} {cy : ByteArray} {maxL fr lc index n : Nat} {rt : Option FieldType} {b : Nat} {As : List Value} {v : Option Value} {m' : Nat → Nat} {g ga gh : Nat → Nat} {kn : Nat} {gk : Nat → Nat} {kp : Bool} {tx : Nat → Nat} {ln : Nat} {sp : Nat} {wr : Bool} {er : Int32} (C : zC p s m args c cc own nL G A) (hV : zV own index y cy maxL rt n) (hM : zX l G y cy maxL rt fr lc 0 0 (.ref b :: As) bs.flatten (zQ v G m' g ga gh kn gk kp tx ln sp wr er)) (hd : decode cc pc = .ok (.invokevirtual index, 3)) {st0 : List Value} (hst : st0 = As.reverse ++ .ref b :: st) (hR : (Nat.ble (fr + 1) R.frames && Nat.ble (8 + (maxL + 11) + lc) R.locals) = true) (hn : As.length = n) (hcap : Nat.ble (st.map fun v => v.category).sum 8 = true) (hcs : (Nat.ble cells R.cells && Nat.ble slots R.slots) = true) (hnl : lo.length = nL) {ci : Nat} {fs : List Value} {q : vw_C} (hrec : ∃ k0 : Nat, bs.flatten[k0]? = some (b, .inr (ci, fs))) (hci : vwCl[ci]? = some q) (hqc : q.1 = y.cls) (k : ∀ iz wy wa tt rr we, Zj p l e R s m args below meth c G A cells slots Q (mB G m' g ga gh kn gk kp tx ln iz wy wa tt rr we sp wr er) lo (pc + 3) (v.toList ++ st)) : Zj p l e R s m args below meth c G A cells slots Q bs lo pc st0 := by
  refine zj_callR (rest := []) C hV hM hd (by rw [List.append_nil]) hst hR hn hcap hcs hnl hrec hci hqc (fun v w1 hq => ?_)
  obtain ⟨rfl, iz, wy, wa, tt, rr, we, rfl⟩ := hq
  exact zj_blk (bs' := mB G m' g ga gh kn gk kp tx ln iz wy wa tt rr we sp wr er) (by simp) (k iz wy wa tt rr we)
end ZQ2
theorem chB_iff {c b a : Nat} : chB c b a = true ↔ (c = 0 ∧ b < 1000000 ∧ ¬ a < 1000000) ∨ (c = 1 ∧ b < a ∧ a < 1000000) ∨ (c = 2 ∧ a < b ∧ b < 1000000) ∨ (c ≠ 0 ∧ c ≠ 1 ∧ c ≠ 2 ∧ ¬ b < 1000000 ∧ a < 1000000) := by
  unfold chB
  by_cases h0 : c = 0
  · subst h0; simp
  · rw [if_neg h0]
    by_cases h1 : c = 1
    · subst h1; simp
    · rw [if_neg h1]
      by_cases h2 : c = 2
      · subst h2; simp
      · rw [if_neg h2]; simp [h0, h1, h2]
def cgN (w : Nat) (U V : Nat → Nat) (n : Nat) : Nat := cntB (fun k => chB w (U k) (V k)) n
def fsK (g : Nat → Nat) (k : Nat) : Nat := FS g (k / 14) (k % 14)
def clN (g : Nat → Nat) (i w : Nat) : Nat := if told g i = true then cgN w (fsK g) (fsK (gCl g i 1)) (14 * kA g) else 0
def gnN (g : Nat → Nat) (x y d : Nat) : Nat := cgN 3 (fsK g) (fsK (gAdd g x y 1 d)) (14 * kA g)
theorem cgN_le (w : Nat) (U V : Nat → Nat) (n : Nat) : cgN w U V n ≤ n := cntB_le _ n
theorem ttV_k {g t : Nat → Nat} {k : Nat} (h : k < 14 * kA g) : ttV g t k = fsK g k := if_pos (by omega)
theorem cgN_c {w n : Nat} {U U' V V' : Nat → Nat} (h : ∀ k, k < n → U k = U' k) (h2 : ∀ k, k < n → V k = V' k) : cgN w U V n = cgN w U' V' n := cntB_congr fun k hk => by rw [h k hk, h2 k hk]
theorem kA_cl {g : Nat → Nat} {i v : Nat} (hi : i < 25) : kA (gCl g i v) = kA g := if_neg (by omega)
theorem kL_cl {g : Nat → Nat} {i v : Nat} : kL (gCl g i v) = kL g := if_neg (by omega)
theorem Vk_cl {g : Nat → Nat} (hv : Vg g) {i v : Nat} (hi : i < kL g) (hw : v ≤ 1) : Vk (gCl g i v) := Vk_of (Vg_cl hv hi hw)
theorem clN_le {g : Nat → Nat} (hv : Vk g) (i w : Nat) : clN g i w ≤ 168 := by
  unfold clN
  split
  · exact Nat.le_trans (cgN_le _ _ _ _) (by have := hv.2.1; omega)
  · exact Nat.zero_le _
theorem cl_back {g : Nat → Nat} (hv : Vk g) {i : Nat} (hi : i < kL g) (h : told g i = true) : updN (gCl g i 1) (15 + 5 * i + 4) 0 = g := by
  have h0 : g (15 + 5 * i + 4) = 0 := by
    have : lnC g i 4 = 0 := by
      unfold told at h
      simp only [Bool.and_eq_true, beq_iff_eq] at h
      exact h.1
    rw [← lnC_ix] at this
    exact this
  funext k
  unfold gCl updN
  by_cases hk : k = 15 + 5 * i + 4
  · subst hk; rw [if_pos rfl, h0]
  · rw [if_neg hk, if_neg hk]
theorem Vk_add {g : Nat → Nat} (hv : Vg g) {x y d : Nat} (hx : x < 14) (hy : y < 14) (hxy : x ≠ y) (hd : d < 4) : Vk (gAdd g x y 1 d) := by
  have hk := hv.1
  refine ⟨by rw [add_k]; omega, ?_, fun z hz => ?_, fun i hi => ?_, fun i hi => ?_⟩
  · show gAdd g x y 1 d 140 ≤ 12
    rw [add_o (by decide) (by omega)]
    exact hv.2.1
  · rw [add_o (by omega) (by omega)]
    exact hv.2.2.1 z hz
  · rw [add_k] at hi
    rw [add_ln (by decide), add_ln (by decide), add_ln (by decide), add_ln (by decide), add_ln (by decide)]
    by_cases h9 : i = kL g
    · rw [if_pos h9, if_pos h9, if_pos h9, if_pos h9, if_pos h9]
      simp
      exact ⟨hx, hy, hxy, hd⟩
    · rw [if_neg h9, if_neg h9, if_neg h9, if_neg h9, if_neg h9]
      exact hv.2.2.2.1 i (by omega)
  · have ea : ∀ j c, alC (gAdd g x y 1 d) j c = alC g j c := fun j c => add_o (by omega) (by omega)
    have eA : kA (gAdd g x y 1 d) = kA g := add_o (by decide) (by omega)
    rw [eA] at hi
    rw [ea, ea, ea]
    exact hv.2.2.2.2 i hi
theorem kA_add {g : Nat → Nat} (hk : kL g ≤ 24) {x y d : Nat} : kA (gAdd g x y 1 d) = kA g := add_o (by decide) (by omega)
/-- the same but for the place of a lane that is not there -/
def AG (g g' : Nat → Nat) : Prop := ∀ j, j < 15 + 5 * kL g ∨ 140 ≤ j → g' j = g j
theorem AG_rf {g : Nat → Nat} : AG g g := fun _ _ => rfl
theorem AG_k {g g' : Nat → Nat} (h : AG g g') (hk : kL g ≤ 25) : kL g' = kL g ∧ kA g' = kA g ∧ (∀ x, x < 14 → g' x = g x) ∧ (∀ i c, i < kL g → c < 5 → lnC g' i c = lnC g i c) ∧ ∀ i c, alC g' i c = alC g i c :=
  ⟨h 14 (by omega), h 140 (by omega), fun x hx => h x (by omega), fun i c hi hc => h _ (by omega), fun i c => h _ (by omega)⟩
theorem AG_V {g g' : Nat → Nat} (h : AG g g') (hv : Vg g) : Vg g' := by
  obtain ⟨e1, e2, e3, e4, e5⟩ := AG_k h (by have := hv.1; omega)
  refine ⟨by rw [e1]; exact hv.1, by rw [e2]; exact hv.2.1, fun x hx => by rw [e3 x hx]; exact hv.2.2.1 x hx, fun i hi => ?_, fun i hi => ?_⟩
  · rw [e1] at hi
    rw [e4 i 0 hi (by decide), e4 i 1 hi (by decide), e4 i 2 hi (by decide), e4 i 3 hi (by decide), e4 i 4 hi (by decide)]
    exact hv.2.2.2.1 i hi
  · rw [e2] at hi
    rw [e5, e5, e5]
    exact hv.2.2.2.2 i hi
theorem AG_told {g g' : Nat → Nat} (h : AG g g') (hv : Vk g) {i : Nat} (hi : i < kL g) : told g' i = told g i := by
  obtain ⟨e1, e2, e3, e4, e5⟩ := AG_k h hv.1
  obtain ⟨-, x0, x1, -⟩ := Vk_x hv hi
  unfold told hasCk hasB
  rw [e4 i 4 hi (by decide), e4 i 0 hi (by decide), e4 i 1 hi (by decide), e3 _ x0, e3 _ x1]
theorem AG_dst {g g' : Nat → Nat} (h : AG g g') (hv : Vk g) : dst g' = dst g := by
  obtain ⟨e1, e2, e3, e4, e5⟩ := AG_k h hv.1
  funext d
  unfold dst
  rw [e1]
  have key : ∀ n, n ≤ kL g → dstF g' (pL g' d) (clV d) n = dstF g (pL g d) (clV d) n := by
    intro n
    induction n with
    | zero => intro _; rfl
    | succ n ih =>
      intro hn
      have ep : pL g' d n = pL g d n := by unfold pL; rw [AG_told h hv (by omega), e4 n 3 (by omega) (by decide)]
      unfold dstF
      rw [ep, ih (by omega), e4 n 0 (by omega) (by decide), e4 n 1 (by omega) (by decide), e4 n 2 (by omega) (by decide)]
  exact key _ (Nat.le_refl _)
theorem AG_inn {g g' : Nat → Nat} (h : AG g g') (hv : Vk g) : inn g' = inn g := by
  obtain ⟨e1, e2, e3, e4, e5⟩ := AG_k h hv.1
  funext d x
  unfold inn inI
  rw [e1]
  exact anyB_congr fun i hi => by rw [AG_told h hv hi, e4 i 3 hi (by decide), e4 i 0 hi (by decide), e4 i 1 hi (by decide)]
theorem AG_FS {g g' : Nat → Nat} (h : AG g g') (hv : Vk g) : FS g' = FS g ∧ FR g' = FR g := by
  obtain ⟨e1, e2, e3, e4, e5⟩ := AG_k h hv.1
  have ed := AG_dst h hv
  have ei := AG_inn h hv
  have eg : gateK g' = gateK g := by funext d k; unfold gateK; rw [ei]
  have eW : WN g' = WN g := by funext al x; unfold WN; rw [ed, e5, e5, e5]
  have eB : bgN g' = bgN g := by funext x al k; unfold bgN; rw [ed, eg, e5, e5, e5]
  have eL : LN g' = LN g := by funext al x; unfold LN; rw [eB, ei]
  have eT : NT g' = NT g := by funext al x; unfold NT; rw [eW, eL]
  have eS : NS g' = NS g := by funext al x; unfold NS; rw [eT]
  have eR : NR g' = NR g := by funext al x; unfold NR; rw [eT, eW]
  have eD : bdN g' = bdN g := by funext N x k d; unfold bdN; rw [ed, eg]
  have eF : LF g' = LF g := by funext N x; unfold LF; rw [eD]
  refine ⟨by funext al x; unfold FS; rw [eR, ei, eF, eS], by funext al x; unfold FR; rw [eR, ei, eF, eS]⟩
theorem AG_add {g g' : Nat → Nat} (h : AG g g') (hk : kL g ≤ 24) {x y d : Nat} : AG (gAdd g x y 1 d) (gAdd g' x y 1 d) := by
  have e1 : kL g' = kL g := h 14 (by omega)
  intro j hj
  rw [add_k] at hj
  unfold gAdd
  rw [e1]
  unfold updN
  by_cases h0 : j = 14
  · rw [if_pos h0, if_pos h0]
  rw [if_neg h0, if_neg h0]
  by_cases h1 : j = 15 + 5 * kL g + 4
  · rw [if_pos h1, if_pos h1]
  rw [if_neg h1, if_neg h1]
  by_cases h2 : j = 15 + 5 * kL g + 3
  · rw [if_pos h2, if_pos h2]
  rw [if_neg h2, if_neg h2]
  by_cases h3 : j = 15 + 5 * kL g + 2
  · rw [if_pos h3, if_pos h3]
  rw [if_neg h3, if_neg h3]
  by_cases h4 : j = 15 + 5 * kL g + 1
  · rw [if_pos h4, if_pos h4]
  rw [if_neg h4, if_neg h4]
  by_cases h5 : j = 15 + 5 * kL g
  · rw [if_pos h5, if_pos h5]
  rw [if_neg h5, if_neg h5]
  exact h j (by omega)
theorem AG_gn {g g' : Nat → Nat} (h : AG g g') (hv : Vg g) {x y d : Nat} (hx : x < 14) (hy : y < 14) (hxy : x ≠ y) (hd : d < 4) : gnN g' x y d = gnN g x y d := by
  obtain ⟨e1, e2, e3, e4, e5⟩ := AG_k h (by have := hv.1; omega)
  unfold gnN
  have a1 : fsK g' = fsK g := by funext k; unfold fsK; rw [(AG_FS h (Vk_of hv)).1]
  have a2 : fsK (gAdd g' x y 1 d) = fsK (gAdd g x y 1 d) := by funext k; unfold fsK; rw [(AG_FS (AG_add h hv.1) (Vk_add hv hx hy hxy hd)).1]
  rw [a1, a2, e2]
/-- a lane that came and went -/
theorem AG_jk {g g' : Nat → Nat} (h : AG g g') (hk : kL g ≤ 24) {x y d : Nat} : AG g (updN (gAdd g' x y 1 d) 14 (kL g)) := by
  have e1 : kL g' = kL g := h 14 (by omega)
  intro j hj
  unfold updN
  by_cases h0 : j = 14
  · rw [if_pos h0, h0]; rfl
  · rw [if_neg h0, add_o h0 (by omega)]
    exact h j hj
def itN (g : Nat → Nat) (i : Nat) : Nat := 1000 * clN g i 0 + clN g i 1
def rwk (g : Nat → Nat) : Nat → Option Nat × Nat
  | 0 => (none, 0)
  | n + 1 => (if (rwk g n).2 < itN g n then some n else (rwk g n).1, if (rwk g n).2 < itN g n then itN g n else (rwk g n).2)
theorem itN_le {g : Nat → Nat} (hv : Vk g) (i : Nat) : itN g i ≤ 168168 := by
  have h1 := clN_le hv i 0
  have h2 := clN_le hv i 1
  unfold itN
  omega
theorem rwk_le {g : Nat → Nat} (hv : Vk g) : ∀ n, (rwk g n).2 ≤ 168168
  | 0 => Nat.zero_le _
  | n + 1 => by
    have ih := rwk_le hv n
    have h1 := itN_le hv n
    show (if (rwk g n).2 < itN g n then itN g n else (rwk g n).2) ≤ _
    split <;> omega
def rIC (g : Nat → Nat) (x w : Int32) : Int32 := if tHas (nI (kL g)) x then (if w < 0 ∨ 2 < w then -2 else nI (clN g x.toNatClampNeg w.toNatClampNeg)) else -1
def myB (g : Nat → Nat) (d x y : Nat) : Bool := inn g 0 x && (!(inn g d x) && inn g d y)
def ibN (g : Nat → Nat) (d k : Nat) : Nat := if myB g d (k / 14) (k % 14) = true then gnN g (k / 14) (k % 14) d else 0
def rbg (g : Nat → Nat) (d : Nat) : Nat → Option Nat × Nat
  | 0 => (none, 0)
  | n + 1 => (if (rbg g d n).2 < ibN g d n then some n else (rbg g d n).1, if (rbg g d n).2 < ibN g d n then ibN g d n else (rbg g d n).2)
theorem gnN_le {g : Nat → Nat} (hv : Vk g) (x y d : Nat) : gnN g x y d ≤ 168 := Nat.le_trans (cgN_le _ _ _ _) (by have := hv.2.1; omega)
theorem ibN_le {g : Nat → Nat} (hv : Vk g) (d k : Nat) : ibN g d k ≤ 168 := by
  unfold ibN
  split
  · exact gnN_le hv _ _ _
  · exact Nat.zero_le _
theorem rbg_le {g : Nat → Nat} (hv : Vk g) (d : Nat) : ∀ n, (rbg g d n).2 ≤ 168 ∧ ∀ k, (rbg g d n).1 = some k → k < n
  | 0 => ⟨Nat.zero_le _, fun k h => by cases h⟩
  | n + 1 => by
    have ih := rbg_le hv d n
    have h1 := ibN_le hv d n
    constructor
    · show (if (rbg g d n).2 < ibN g d n then ibN g d n else (rbg g d n).2) ≤ _
      split <;> omega
    · intro k h
      have h : (if (rbg g d n).2 < ibN g d n then some n else (rbg g d n).1) = some k := h
      split at h
      · cases h; omega
      · have := ih.2 k h; omega
def rBG (g : Nat → Nat) (d w : Int32) : Int32 := if inB d 1 3 then (if w < 0 ∨ 2 < w then -2 else match (rbg g d.toNatClampNeg 196).1 with
    | none => -5
    | some k => if w = 0 then nI (k / 14) else if w = 1 then nI (k % 14) else nI (rbg g d.toNatClampNeg 196).2) else -1
def zB (v : Option Value) (G : GG) (m : Nat → Nat) (g ga gh : Nat → Nat) (kn : Nat) (gk : Nat → Nat) (kp : Bool) (tx : Nat → Nat) (ln : Nat) (sp : Nat) (wr : Bool) (er : Int32) : Option Value → va_W → Prop := fun v' w' => v' = v ∧ ∃ g' iz wy wa tt rr we, AG g g' ∧ w' = (mB G m g' ga gh kn gk kp tx ln iz wy wa tt rr we sp wr er).flatten
theorem zB_mk {G : GG} {m : Nat → Nat} {g g' ga gh : Nat → Nat} {kn : Nat} {gk : Nat → Nat} {kp : Bool} {tx : Nat → Nat} {ln : Nat} {iz wy wa tt rr we : Nat → Nat} {sp : Nat} {wr : Bool} {er v a : Int32} (ha : AG g g') (h : v = a) : zB (some (.int a)) G m g ga gh kn gk kp tx ln sp wr er (some (.int v)) (mB G m g' ga gh kn gk kp tx ln iz wy wa tt rr we sp wr er).flatten := ⟨by rw [h], g', iz, wy, wa, tt, rr, we, ha, rfl⟩

set_option maxRecDepth 100000 in
set_option maxHeartbeats 4000000 in
theorem m_X7_putAside {l : Launch} {G : GG} {m : Nat → Nat} {g ga gh : Nat → Nat} {kn : Nat} {gk : Nat → Nat} {kp : Bool} {tx : Nat → Nat} {ln : Nat} {iz wy wa tt rr we : Nat → Nat} {sp : Nat} {wr : Bool} {er : Int32} (hv : Vk g) : zX l G yX7_putAside cX7_putAside 2 none 5 117 0 0 [.ref (m 0)] (mB G m g ga gh kn gk kp tx ln iz wy wa tt rr we sp wr er).flatten (zF none (mB G m g ga gh kn gk kp tx ln (izV g) (wyV g) wa (ttV g tt) (rrV g rr) (ttV g tt) sp wr er).flatten) := by
  refine zj_startF RX7 (by decide +kernel) rfl rfl rfl (bs := (mB G m g ga gh kn gk kp tx ln iz wy wa tt rr we sp wr er)) rfl (lo := [some (.ref (m 0)), none]) rfl ?_
  intro p0 e0 s0 m0 args0 below0 meth0 c0 A0 C hr hlocks
  refine zj_aload_n (pc := 0) C dX7_putAside_0 rfl ?_
  refine zq_callFn (pc := 1) (bs' := (mB G m g ga gh kn gk kp tx ln (izV g) (wyV g) wa (ttV g tt) (rrV g rr) we sp wr er)) C kv_X7_196 (m_X7_worksOutTotals hv) dX7_putAside_1 rfl rfl rfl rfl rfl rfl ⟨0, rfl⟩ rfl rfl ?_
  refine zj_iconst (pc := 4) (v := nI 0) C dX7_putAside_4 (by decide) ?_
  refine zj_istore_n (pc := 5) C dX7_putAside_5 (Nat.le_of_ble_eq_true rfl) ?_
  refine zj_blk (bs' := (mB G m g ga gh kn gk kp tx ln (izV g) (wyV g) wa (ttV g tt) (rrV g rr) (cyI (ttV g tt) we 0) sp wr er)) (by rw [cyI_0]) ?_
  refine zj_keep [true, true] ?_
  refine zq_loop1 (fun (j : Nat) => j ≤ 168) (fun (j : Nat) => 168 - j) (fun (j : Nat) => (mB G m g ga gh kn gk kp tx ln (izV g) (wyV g) wa (ttV g tt) (rrV g rr) (cyI (ttV g tt) we j) sp wr er)) (fun (j : Nat) => [some (.ref (m 0)), some (.int (nI (j)))]) ?_ 0 (Nat.zero_le _)
  intro j hI ih_6
  refine zj_iload_n (pc := 6) C dX7_putAside_6 rfl ?_
  refine zj_sipush (pc := 7) (v := nI 168) C dX7_putAside_7 (by decide) ?_
  refine zq_icmp_ge (pc := 10) 31 C dX7_putAside_10 (by decide) (by omega) (by omega) (fun c_10 => ?_) (fun c_10 => ?_)
  · refine zq_row 11 (ttV g tt) rfl (fun k hk => if_pos (by omega)) ?_
    refine zj_blk (bs' := (mB G m g ga gh kn gk kp tx ln (izV g) (wyV g) wa (ttV g tt) (rrV g rr) (ttV g tt) sp wr er)) rfl ?_
    exact zj_vretF C hr hlocks dX7_putAside_31 rfl
  · refine zj_aload_n (pc := 13) C dX7_putAside_13 rfl ?_
    refine gf_X7_13 (pc := 14) C dX7_putAside_14 0 rfl ?_
    refine zj_iload_n (pc := 17) C dX7_putAside_17 rfl ?_
    refine zj_aload_n (pc := 18) C dX7_putAside_18 rfl ?_
    refine gf_X7_11 (pc := 19) C dX7_putAside_19 0 rfl ?_
    refine zj_iload_n (pc := 22) C dX7_putAside_22 rfl ?_
    refine zq_iald (pc := 23) C dX7_putAside_23 9 rfl (by omega) (by decide) ?_
    refine zq_iast (pc := 24) C dX7_putAside_24 11 rfl (by omega) (by decide) ?_
    refine zj_blk (bs' := (mB G m g ga gh kn gk kp tx ln (izV g) (wyV g) wa (ttV g tt) (rrV g rr) (updN (cyI (ttV g tt) we j) j ((ttV g tt) j)) sp wr er)) rfl ?_
    refine zj_iinc (pc := 25) (v := nI (j + 1)) C dX7_putAside_25 rfl (nI_1 _) ?_
    refine zj_goto (pc := 28) (tgt := 6) C dX7_putAside_28 (by decide) ?_
    refine zj_blk (bs' := (mB G m g ga gh kn gk kp tx ln (izV g) (wyV g) wa (ttV g tt) (rrV g rr) (cyI (ttV g tt) we (j + 1)) sp wr er)) (by rw [cyI_s]) ?_
    refine zj_keep [true, true] ?_
    exact ih_6 (j + 1) (by omega) (by omega)
set_option maxRecDepth 100000 in
set_option maxHeartbeats 4000000 in
theorem m_X7_changes {l : Launch} {G : GG} {m : Nat → Nat} {g ga gh : Nat → Nat} {kn : Nat} {gk : Nat → Nat} {kp : Bool} {tx : Nat → Nat} {ln : Nat} {iz wy wa tt rr we : Nat → Nat} {sp : Nat} {wr : Bool} {er : Int32} {w : Nat} (hv : Vk g) (hw : w ≤ 3) (hU : ∀ k, k < 14 * kA g → we k ≤ 1000000) : zX l G yX7_changes cX7_changes 7 (some .int) 5 117 0 0 [.ref (m 0), .int (nI (w))] (mB G m g ga gh kn gk kp tx ln iz wy wa tt rr we sp wr er).flatten (zF (some (.int (nI (cgN w we (ttV g tt) (14 * kA g))))) (mB G m g ga gh kn gk kp tx ln (izV g) (wyV g) wa (ttV g tt) (rrV g rr) we sp wr er).flatten) := by
  refine zj_startF RX7 (by decide +kernel) rfl rfl rfl (bs := (mB G m g ga gh kn gk kp tx ln iz wy wa tt rr we sp wr er)) rfl (lo := [some (.ref (m 0)), some (.int (nI (w))), none, none, none, none, none]) rfl ?_
  intro p0 e0 s0 m0 args0 below0 meth0 c0 A0 C hr hlocks
  have ha : kA g ≤ 12 := hv.2.1
  have hae : kA g = g 140 := rfl
  refine zj_aload_n (pc := 0) C dX7_changes_0 rfl ?_
  refine zq_callFn (pc := 1) (bs' := (mB G m g ga gh kn gk kp tx ln (izV g) (wyV g) wa (ttV g tt) (rrV g rr) we sp wr er)) C kv_X7_196 (m_X7_worksOutTotals hv) dX7_changes_1 rfl rfl rfl rfl rfl rfl ⟨0, rfl⟩ rfl rfl ?_
  refine zj_iconst (pc := 4) (v := nI 0) C dX7_changes_4 (by decide) ?_
  refine zj_istore_n (pc := 5) C dX7_changes_5 (Nat.le_of_ble_eq_true rfl) ?_
  refine zj_iconst (pc := 6) (v := nI 0) C dX7_changes_6 (by decide) ?_
  refine zj_istore_n (pc := 7) C dX7_changes_7 (Nat.le_of_ble_eq_true rfl) ?_
  refine zj_keep [true, true, true, true, false, false, false] ?_
  refine zq_loop1 (fun (k : Nat) => k ≤ 14 * kA g) (fun (k : Nat) => 14 * kA g - k) (fun (k : Nat) => (mB G m g ga gh kn gk kp tx ln (izV g) (wyV g) wa (ttV g tt) (rrV g rr) we sp wr er)) (fun (k : Nat) => [some (.ref (m 0)), some (.int (nI (w))), some (.int (nI (cgN w we (ttV g tt) k))), some (.int (nI (k))), none, none, none]) ?_ 0 (Nat.zero_le _)
  intro k hI ih_8
  have hc := cgN_le w we (ttV g tt) k
  refine zj_iload_n (pc := 8) C dX7_changes_8 rfl ?_
  refine zj_bipush (pc := 9) (v := nI 14) C dX7_changes_9 (by decide) ?_
  refine zj_aload_n (pc := 11) C dX7_changes_11 rfl ?_
  refine gf_X7_0 (pc := 12) C dX7_changes_12 0 rfl ?_
  refine zj_sipush (pc := 15) (v := nI 140) C dX7_changes_15 (by decide) ?_
  refine zq_iald (pc := 18) C dX7_changes_18 1 rfl (by omega) (by decide) ?_
  refine zq_imul (pc := 19) C dX7_changes_19 ?_
  refine zq_icmp_ge (pc := 20) 178 C dX7_changes_20 (by decide) (by omega) (by omega) (fun c_20 => ?_) (fun c_20 => ?_)
  · refine zj_iload_n (pc := 178) C dX7_changes_178 rfl ?_
    exact zj_iretF C hr hlocks dX7_changes_179 (by rw [show k = 14 * kA g by omega]) rfl
  · have u1 := hU k (by omega)
    have u2 : ttV g tt k ≤ 1000000 := by rw [ttV_k (by omega)]; exact FS_le _ _ _
    refine zj_aload_n (pc := 23) C dX7_changes_23 rfl ?_
    refine gf_X7_13 (pc := 24) C dX7_changes_24 0 rfl ?_
    refine zj_iload_n (pc := 27) C dX7_changes_27 rfl ?_
    refine zq_iald (pc := 28) C dX7_changes_28 11 rfl (by omega) (by decide) ?_
    refine zj_ldc (pc := 29) (v := nI 1000000) C dX7_changes_29 aq_1022 ?_
    refine zq_mrg 39 [] (bI (!(decide (1000000 ≤ we k)))) ?_ (fun kk => ?_)
    · refine zj_istore (pc := 39) C dX7_changes_39 (Nat.le_of_ble_eq_true rfl) ?_
      refine zj_aload_n (pc := 41) C dX7_changes_41 rfl ?_
      refine gf_X7_11 (pc := 42) C dX7_changes_42 0 rfl ?_
      refine zj_iload_n (pc := 45) C dX7_changes_45 rfl ?_
      refine zq_iald (pc := 46) C dX7_changes_46 9 rfl (by omega) (by decide) ?_
      refine zj_ldc (pc := 47) (v := nI 1000000) C dX7_changes_47 aq_1022 ?_
      refine zq_mrg 57 [] (bI (!(decide (1000000 ≤ (ttV g tt) k)))) ?_ (fun kk => ?_)
      · refine zj_istore (pc := 57) C dX7_changes_57 (Nat.le_of_ble_eq_true rfl) ?_
        refine zq_mrg 157 [] (bI (chB w (we k) (ttV g tt k))) ?_ (fun kk => ?_)
        · refine zj_istore (pc := 157) C dX7_changes_157 (Nat.le_of_ble_eq_true rfl) ?_
          refine zj_iload_n (pc := 159) C dX7_changes_159 rfl ?_
          refine zj_iload (pc := 160) C dX7_changes_160 rfl ?_
          refine zj_ifb_eq (pc := 162) 169 C dX7_changes_162 (by decide) (fun c_162 => ?_) (fun c_162 => ?_)
          · refine zj_iconst (pc := 169) (v := nI 0) C dX7_changes_169 (by decide) ?_
            refine zq_iadd (pc := 170) C dX7_changes_170 ?_
            refine zj_top (x' := nI (cgN w we (ttV g tt) k)) rfl ?_
            refine zj_top (x' := nI (cgN w we (ttV g tt) (k + 1))) (congrArg nI (cntB_f (p := fun k => chB w (we k) (ttV g tt k)) c_162).symm) ?_
            refine zj_istore_n (pc := 171) C dX7_changes_171 (Nat.le_of_ble_eq_true rfl) ?_
            refine zj_iinc (pc := 172) (v := nI (k + 1)) C dX7_changes_172 rfl (nI_1 _) ?_
            refine zj_goto (pc := 175) (tgt := 8) C dX7_changes_175 (by decide) ?_
            refine zj_keep [true, true, true, true, false, false, false] ?_
            exact ih_8 (k + 1) (by omega) (by omega)
          · refine zj_iconst (pc := 165) (v := nI 1) C dX7_changes_165 (by decide) ?_
            refine zj_goto (pc := 166) (tgt := 170) C dX7_changes_166 (by decide) ?_
            refine zq_iadd (pc := 170) C dX7_changes_170 ?_
            refine zj_top (x' := nI (cgN w we (ttV g tt) (k + 1))) (congrArg nI (cntB_t (p := fun k => chB w (we k) (ttV g tt k)) c_162).symm) ?_
            refine zj_istore_n (pc := 171) C dX7_changes_171 (Nat.le_of_ble_eq_true rfl) ?_
            refine zj_iinc (pc := 172) (v := nI (k + 1)) C dX7_changes_172 rfl (nI_1 _) ?_
            refine zj_goto (pc := 175) (tgt := 8) C dX7_changes_175 (by decide) ?_
            refine zj_keep [true, true, true, true, false, false, false] ?_
            exact ih_8 (k + 1) (by omega) (by omega)
        · refine zj_iload_n (pc := 59) C dX7_changes_59 rfl ?_
          refine zq_if_ne (pc := 60) 81 C dX7_changes_60 (by decide) (by omega) (fun c_60 => ?_) (fun c_60 => ?_)
          · refine zj_iload_n (pc := 81) C dX7_changes_81 rfl ?_
            refine zj_iconst (pc := 82) (v := nI 3) C dX7_changes_82 (by decide) ?_
            refine zq_icmp_ne (pc := 83) 104 C dX7_changes_83 (by decide) (by omega) (by omega) (fun c_83 => ?_) (fun c_83 => ?_)
            · refine zj_iload (pc := 104) C dX7_changes_104 rfl ?_
              refine zj_ifb_eq (pc := 106) 156 C dX7_changes_106 (by decide) (fun c_106 => ?_) (fun c_106 => ?_)
              · refine zj_iconst (pc := 156) (v := nI 0) C dX7_changes_156 (by decide) ?_
                simp only [Bool.not_eq_true', Bool.not_eq_false', decide_eq_true_eq, decide_eq_false_iff_not] at c_106
                exact zj_top (x' := bI (chB w (we k) (ttV g tt k))) (zq_f (Bool.eq_false_iff.mpr (fun h => by have h2 := chB_iff.mp h; omega))) kk
              · refine zj_iload (pc := 109) C dX7_changes_109 rfl ?_
                refine zj_ifb_eq (pc := 111) 156 C dX7_changes_111 (by decide) (fun c_111 => ?_) (fun c_111 => ?_)
                · refine zj_iconst (pc := 156) (v := nI 0) C dX7_changes_156 (by decide) ?_
                  simp only [Bool.not_eq_true', Bool.not_eq_false', decide_eq_true_eq, decide_eq_false_iff_not] at c_106 c_111
                  exact zj_top (x' := bI (chB w (we k) (ttV g tt k))) (zq_f (Bool.eq_false_iff.mpr (fun h => by have h2 := chB_iff.mp h; omega))) kk
                · refine zj_iload_n (pc := 114) C dX7_changes_114 rfl ?_
                  refine zj_iconst (pc := 115) (v := nI 1) C dX7_changes_115 (by decide) ?_
                  refine zq_icmp_ne (pc := 116) 137 C dX7_changes_116 (by decide) (by omega) (by omega) (fun c_116 => ?_) (fun c_116 => ?_)
                  · refine zj_aload_n (pc := 137) C dX7_changes_137 rfl ?_
                    refine gf_X7_11 (pc := 138) C dX7_changes_138 0 rfl ?_
                    refine zj_iload_n (pc := 141) C dX7_changes_141 rfl ?_
                    refine zq_iald (pc := 142) C dX7_changes_142 9 rfl (by omega) (by decide) ?_
                    refine zj_aload_n (pc := 143) C dX7_changes_143 rfl ?_
                    refine gf_X7_13 (pc := 144) C dX7_changes_144 0 rfl ?_
                    refine zj_iload_n (pc := 147) C dX7_changes_147 rfl ?_
                    refine zq_iald (pc := 148) C dX7_changes_148 11 rfl (by omega) (by decide) ?_
                    refine zq_icmp_ge (pc := 149) 156 C dX7_changes_149 (by decide) (by omega) (by omega) (fun c_149 => ?_) (fun c_149 => ?_)
                    · refine zj_iconst (pc := 156) (v := nI 0) C dX7_changes_156 (by decide) ?_
                      simp only [Bool.not_eq_true', Bool.not_eq_false', decide_eq_true_eq, decide_eq_false_iff_not] at c_106 c_111
                      exact zj_top (x' := bI (chB w (we k) (ttV g tt k))) (zq_f (Bool.eq_false_iff.mpr (fun h => by have h2 := chB_iff.mp h; omega))) kk
                    · refine zj_iconst (pc := 152) (v := nI 1) C dX7_changes_152 (by decide) ?_
                      refine zj_goto (pc := 153) (tgt := 157) C dX7_changes_153 (by decide) ?_
                      simp only [Bool.not_eq_true', Bool.not_eq_false', decide_eq_true_eq, decide_eq_false_iff_not] at c_106 c_111
                      exact zj_top (x' := bI (chB w (we k) (ttV g tt k))) (zq_t (chB_iff.mpr (by omega))) kk
                  · refine zj_aload_n (pc := 119) C dX7_changes_119 rfl ?_
                    refine gf_X7_11 (pc := 120) C dX7_changes_120 0 rfl ?_
                    refine zj_iload_n (pc := 123) C dX7_changes_123 rfl ?_
                    refine zq_iald (pc := 124) C dX7_changes_124 9 rfl (by omega) (by decide) ?_
                    refine zj_aload_n (pc := 125) C dX7_changes_125 rfl ?_
                    refine gf_X7_13 (pc := 126) C dX7_changes_126 0 rfl ?_
                    refine zj_iload_n (pc := 129) C dX7_changes_129 rfl ?_
                    refine zq_iald (pc := 130) C dX7_changes_130 11 rfl (by omega) (by decide) ?_
                    refine zq_icmp_le (pc := 131) 156 C dX7_changes_131 (by decide) (by omega) (by omega) (fun c_131 => ?_) (fun c_131 => ?_)
                    · refine zj_iconst (pc := 156) (v := nI 0) C dX7_changes_156 (by decide) ?_
                      simp only [Bool.not_eq_true', Bool.not_eq_false', decide_eq_true_eq, decide_eq_false_iff_not] at c_106 c_111
                      exact zj_top (x' := bI (chB w (we k) (ttV g tt k))) (zq_f (Bool.eq_false_iff.mpr (fun h => by have h2 := chB_iff.mp h; omega))) kk
                    · refine zj_goto (pc := 134) (tgt := 152) C dX7_changes_134 (by decide) ?_
                      refine zj_iconst (pc := 152) (v := nI 1) C dX7_changes_152 (by decide) ?_
                      refine zj_goto (pc := 153) (tgt := 157) C dX7_changes_153 (by decide) ?_
                      simp only [Bool.not_eq_true', Bool.not_eq_false', decide_eq_true_eq, decide_eq_false_iff_not] at c_106 c_111
                      exact zj_top (x' := bI (chB w (we k) (ttV g tt k))) (zq_t (chB_iff.mpr (by omega))) kk
            · refine zj_iload (pc := 86) C dX7_changes_86 rfl ?_
              refine zj_ifb_ne (pc := 88) 100 C dX7_changes_88 (by decide) (fun c_88 => ?_) (fun c_88 => ?_)
              · refine zj_iconst (pc := 100) (v := nI 0) C dX7_changes_100 (by decide) ?_
                refine zj_goto (pc := 101) (tgt := 157) C dX7_changes_101 (by decide) ?_
                simp only [Bool.not_eq_true', Bool.not_eq_false', decide_eq_true_eq, decide_eq_false_iff_not] at c_88
                exact zj_top (x' := bI (chB w (we k) (ttV g tt k))) (zq_f (Bool.eq_false_iff.mpr (fun h => by have h2 := chB_iff.mp h; omega))) kk
              · refine zj_iload (pc := 91) C dX7_changes_91 rfl ?_
                refine zj_ifb_eq (pc := 93) 100 C dX7_changes_93 (by decide) (fun c_93 => ?_) (fun c_93 => ?_)
                · refine zj_iconst (pc := 100) (v := nI 0) C dX7_changes_100 (by decide) ?_
                  refine zj_goto (pc := 101) (tgt := 157) C dX7_changes_101 (by decide) ?_
                  simp only [Bool.not_eq_true', Bool.not_eq_false', decide_eq_true_eq, decide_eq_false_iff_not] at c_88 c_93
                  exact zj_top (x' := bI (chB w (we k) (ttV g tt k))) (zq_f (Bool.eq_false_iff.mpr (fun h => by have h2 := chB_iff.mp h; omega))) kk
                · refine zj_iconst (pc := 96) (v := nI 1) C dX7_changes_96 (by decide) ?_
                  refine zj_goto (pc := 97) (tgt := 157) C dX7_changes_97 (by decide) ?_
                  simp only [Bool.not_eq_true', Bool.not_eq_false', decide_eq_true_eq, decide_eq_false_iff_not] at c_88 c_93
                  exact zj_top (x' := bI (chB w (we k) (ttV g tt k))) (zq_t (chB_iff.mpr (by omega))) kk
          · refine zj_iload (pc := 63) C dX7_changes_63 rfl ?_
            refine zj_ifb_eq (pc := 65) 77 C dX7_changes_65 (by decide) (fun c_65 => ?_) (fun c_65 => ?_)
            · refine zj_iconst (pc := 77) (v := nI 0) C dX7_changes_77 (by decide) ?_
              refine zj_goto (pc := 78) (tgt := 157) C dX7_changes_78 (by decide) ?_
              simp only [Bool.not_eq_true', Bool.not_eq_false', decide_eq_true_eq, decide_eq_false_iff_not] at c_65
              exact zj_top (x' := bI (chB w (we k) (ttV g tt k))) (zq_f (Bool.eq_false_iff.mpr (fun h => by have h2 := chB_iff.mp h; omega))) kk
            · refine zj_iload (pc := 68) C dX7_changes_68 rfl ?_
              refine zj_ifb_ne (pc := 70) 77 C dX7_changes_70 (by decide) (fun c_70 => ?_) (fun c_70 => ?_)
              · refine zj_iconst (pc := 77) (v := nI 0) C dX7_changes_77 (by decide) ?_
                refine zj_goto (pc := 78) (tgt := 157) C dX7_changes_78 (by decide) ?_
                simp only [Bool.not_eq_true', Bool.not_eq_false', decide_eq_true_eq, decide_eq_false_iff_not] at c_65 c_70
                exact zj_top (x' := bI (chB w (we k) (ttV g tt k))) (zq_f (Bool.eq_false_iff.mpr (fun h => by have h2 := chB_iff.mp h; omega))) kk
              · refine zj_iconst (pc := 73) (v := nI 1) C dX7_changes_73 (by decide) ?_
                refine zj_goto (pc := 74) (tgt := 157) C dX7_changes_74 (by decide) ?_
                simp only [Bool.not_eq_true', Bool.not_eq_false', decide_eq_true_eq, decide_eq_false_iff_not] at c_65 c_70
                exact zj_top (x' := bI (chB w (we k) (ttV g tt k))) (zq_t (chB_iff.mpr (by omega))) kk
      · refine zq_icmp_ge (pc := 49) 56 C dX7_changes_49 (by decide) (by omega) (by omega) (fun c_49 => ?_) (fun c_49 => ?_)
        · refine zj_iconst (pc := 56) (v := nI 0) C dX7_changes_56 (by decide) ?_
          exact zj_top (x' := bI (!(decide (1000000 ≤ (ttV g tt) k)))) (zq_f (by first | rfl | (simp [c_49]; done) | (simp [c_49]; omega) | omega | (split <;> first | rfl | omega))) kk
        · refine zj_iconst (pc := 52) (v := nI 1) C dX7_changes_52 (by decide) ?_
          refine zj_goto (pc := 53) (tgt := 57) C dX7_changes_53 (by decide) ?_
          exact zj_top (x' := bI (!(decide (1000000 ≤ (ttV g tt) k)))) (zq_t (by first | rfl | (simp [c_49]; done) | (simp [c_49]; omega) | omega | (split <;> first | rfl | omega))) kk
    · refine zq_icmp_ge (pc := 31) 38 C dX7_changes_31 (by decide) (by omega) (by omega) (fun c_31 => ?_) (fun c_31 => ?_)
      · refine zj_iconst (pc := 38) (v := nI 0) C dX7_changes_38 (by decide) ?_
        exact zj_top (x' := bI (!(decide (1000000 ≤ we k)))) (zq_f (by first | rfl | (simp [c_31]; done) | (simp [c_31]; omega) | omega | (split <;> first | rfl | omega))) kk
      · refine zj_iconst (pc := 34) (v := nI 1) C dX7_changes_34 (by decide) ?_
        refine zj_goto (pc := 35) (tgt := 39) C dX7_changes_35 (by decide) ?_
        exact zj_top (x' := bI (!(decide (1000000 ≤ we k)))) (zq_t (by first | rfl | (simp [c_31]; done) | (simp [c_31]; omega) | omega | (split <;> first | rfl | omega))) kk
set_option maxRecDepth 100000 in
set_option maxHeartbeats 4000000 in
theorem m_X7_closing {l : Launch} {G : GG} {m : Nat → Nat} {g ga gh : Nat → Nat} {kn : Nat} {gk : Nat → Nat} {kp : Bool} {tx : Nat → Nat} {ln : Nat} {iz wy wa tt rr we : Nat → Nat} {sp : Nat} {wr : Bool} {er : Int32} {i w : Nat} (hv : Vg g) (hi : i < kL g) (hw : w ≤ 3) : zX l G yX7_closing cX7_closing 4 (some .int) 6 143 0 0 [.ref (m 0), .int (nI (i)), .int (nI (w))] (mB G m g ga gh kn gk kp tx ln iz wy wa tt rr we sp wr er).flatten (zQ (some (.int (nI (clN g i w)))) G m g ga gh kn gk kp tx ln sp wr er) := by
  refine zj_startF RX7 (by decide +kernel) rfl rfl rfl (bs := (mB G m g ga gh kn gk kp tx ln iz wy wa tt rr we sp wr er)) rfl (lo := [some (.ref (m 0)), some (.int (nI (i))), some (.int (nI (w))), none]) rfl ?_
  intro p0 e0 s0 m0 args0 below0 meth0 c0 A0 C hr hlocks
  have hvk := Vk_of hv
  have hk24 := hv.1
  refine zj_aload_n (pc := 0) C dX7_closing_0 rfl ?_
  refine zj_iload_n (pc := 1) C dX7_closing_1 rfl ?_
  refine zq_callP (pc := 2) C kv_X7_59 (m_X7_isTold hvk hi) dX7_closing_2 rfl rfl rfl rfl rfl rfl ⟨0, rfl⟩ rfl rfl ?_
  refine zj_ifb_ne (pc := 5) 10 C dX7_closing_5 (by decide) (fun c_5 => ?_) (fun c_5 => ?_)
  · refine zj_aload_n (pc := 10) C dX7_closing_10 rfl ?_
    refine zq_callFn (pc := 11) (bs' := (mB G m g ga gh kn gk kp tx ln (izV g) (wyV g) wa (ttV g tt) (rrV g rr) (ttV g tt) sp wr er)) C kv_X7_234 (m_X7_putAside hvk) dX7_closing_11 rfl rfl rfl rfl rfl rfl ⟨0, rfl⟩ rfl rfl ?_
    refine zj_aload_n (pc := 14) C dX7_closing_14 rfl ?_
    refine gf_X7_0 (pc := 15) C dX7_closing_15 0 rfl ?_
    refine zj_bipush (pc := 18) (v := nI 15) C dX7_closing_18 (by decide) ?_
    refine zj_iconst (pc := 20) (v := nI 5) C dX7_closing_20 (by decide) ?_
    refine zj_iload_n (pc := 21) C dX7_closing_21 rfl ?_
    refine zq_imul (pc := 22) C dX7_closing_22 ?_
    refine zq_iadd (pc := 23) C dX7_closing_23 ?_
    refine zj_iconst (pc := 24) (v := nI 4) C dX7_closing_24 (by decide) ?_
    refine zq_iadd (pc := 25) C dX7_closing_25 ?_
    refine zj_iconst (pc := 26) (v := nI 1) C dX7_closing_26 (by decide) ?_
    refine zq_iast (pc := 27) C dX7_closing_27 1 rfl (by omega) (by decide) ?_
    refine zj_blk (bs' := (mB G m (updN g (15 + (5 * i) + 4) 1) ga gh kn gk kp tx ln (izV g) (wyV g) wa (ttV g tt) (rrV g rr) (ttV g tt) sp wr er)) rfl ?_
    refine zj_blk (bs' := (mB G m (gCl g i 1) ga gh kn gk kp tx ln (izV g) (wyV g) wa (ttV g tt) (rrV g rr) (ttV g tt) sp wr er)) rfl ?_
    refine zj_aload_n (pc := 28) C dX7_closing_28 rfl ?_
    refine zj_iload_n (pc := 29) C dX7_closing_29 rfl ?_
    refine zq_callF (pc := 30) (bs' := (mB G m (gCl g i 1) ga gh kn gk kp tx ln (izV (gCl g i 1)) (wyV (gCl g i 1)) wa (ttV (gCl g i 1) (ttV g tt)) (rrV (gCl g i 1) (rrV g rr)) (ttV g tt) sp wr er)) C kv_X7_237 (m_X7_changes (Vk_cl hv hi (Nat.le_refl 1)) hw (fun k hk => by rw [kA_cl (by omega)] at hk; rw [ttV_k hk]; exact FS_le _ _ _)) dX7_closing_30 rfl rfl rfl rfl rfl rfl ⟨0, rfl⟩ rfl rfl ?_
    refine zj_top (x' := nI (clN g i w)) (congrArg nI (by unfold clN; rw [if_pos c_5, kA_cl (by omega)]; exact cgN_c (fun k hk => ttV_k hk) (fun k hk => ttV_k (by rw [kA_cl (by omega)]; exact hk)))) ?_
    refine zj_istore_n (pc := 33) C dX7_closing_33 (Nat.le_of_ble_eq_true rfl) ?_
    refine zj_aload_n (pc := 34) C dX7_closing_34 rfl ?_
    refine gf_X7_0 (pc := 35) C dX7_closing_35 0 rfl ?_
    refine zj_bipush (pc := 38) (v := nI 15) C dX7_closing_38 (by decide) ?_
    refine zj_iconst (pc := 40) (v := nI 5) C dX7_closing_40 (by decide) ?_
    refine zj_iload_n (pc := 41) C dX7_closing_41 rfl ?_
    refine zq_imul (pc := 42) C dX7_closing_42 ?_
    refine zq_iadd (pc := 43) C dX7_closing_43 ?_
    refine zj_iconst (pc := 44) (v := nI 4) C dX7_closing_44 (by decide) ?_
    refine zq_iadd (pc := 45) C dX7_closing_45 ?_
    refine zj_iconst (pc := 46) (v := nI 0) C dX7_closing_46 (by decide) ?_
    refine zq_iast (pc := 47) C dX7_closing_47 1 rfl (by omega) (by decide) ?_
    refine zj_blk (bs' := (mB G m (updN (gCl g i 1) (15 + (5 * i) + 4) 0) ga gh kn gk kp tx ln (izV (gCl g i 1)) (wyV (gCl g i 1)) wa (ttV (gCl g i 1) (ttV g tt)) (rrV (gCl g i 1) (rrV g rr)) (ttV g tt) sp wr er)) rfl ?_
    refine zj_blk (bs' := (mB G m g ga gh kn gk kp tx ln (izV (gCl g i 1)) (wyV (gCl g i 1)) wa (ttV (gCl g i 1) (ttV g tt)) (rrV (gCl g i 1) (rrV g rr)) (ttV g tt) sp wr er)) (by rw [cl_back hvk hi c_5]) ?_
    refine zj_iload_n (pc := 48) C dX7_closing_48 rfl ?_
    refine zj_iret C hr hlocks dX7_closing_49 ?_
    exact zQ_mk rfl
  · refine zj_iconst (pc := 8) (v := nI 0) C dX7_closing_8 (by decide) ?_
    refine zj_iret C hr hlocks dX7_closing_9 ?_
    exact zQ_mk (congrArg nI (if_neg (by rw [c_5]; decide) : clN g i w = 0).symm)
set_option maxRecDepth 100000 in
set_option maxHeartbeats 4000000 in
theorem m_X7_ifClosed {l : Launch} {G : GG} {m : Nat → Nat} {g ga gh : Nat → Nat} {kn : Nat} {gk : Nat → Nat} {kp : Bool} {tx : Nat → Nat} {ln : Nat} {iz wy wa tt rr we : Nat → Nat} {sp : Nat} {wr : Bool} {er : Int32} {x w : Int32} (hv : Vg g) : zX l G yX7_ifClosed cX7_ifClosed 3 (some .int) 7 166 0 0 [.ref (m 0), .int (x), .int (w)] (mB G m g ga gh kn gk kp tx ln iz wy wa tt rr we sp wr er).flatten (zQ (some (.int (rIC g x w))) G m g ga gh kn gk kp tx ln sp wr er) := by
  refine zj_startF RX7 (by decide +kernel) rfl rfl rfl (bs := (mB G m g ga gh kn gk kp tx ln iz wy wa tt rr we sp wr er)) rfl (lo := [some (.ref (m 0)), some (.int (x)), some (.int (w))]) rfl ?_
  intro p0 e0 s0 m0 args0 below0 meth0 c0 A0 C hr hlocks
  have hvk := Vk_of hv
  have hk24 := hv.1
  refine zj_aload_n (pc := 0) C dX7_ifClosed_0 rfl ?_
  refine zj_iload_n (pc := 1) C dX7_ifClosed_1 rfl ?_
  refine zq_callP (pc := 2) C kv_X7_140 (m_X7_isLane hvk) dX7_ifClosed_2 rfl rfl rfl rfl rfl rfl ⟨0, rfl⟩ rfl rfl ?_
  refine zj_ifb_ne (pc := 5) 10 C dX7_ifClosed_5 (by decide) (fun c_5 => ?_) (fun c_5 => ?_)
  · obtain ⟨i, hi, rfl⟩ := tHas_s (by omega) c_5
    have ei : (nI i).toNatClampNeg = i := nI_clamp (by omega)
    refine zj_iload_n (pc := 10) C dX7_ifClosed_10 rfl ?_
    refine zj_iconst (pc := 11) (v := nI 0) C dX7_ifClosed_11 (by decide) ?_
    refine zj_iconst (pc := 12) (v := nI 2) C dX7_ifClosed_12 (by decide) ?_
    refine zj_callSF (pc := 13) C kv_X7_43 (m_X7_in) dX7_ifClosed_13 rfl rfl rfl rfl rfl rfl ?_
    refine zj_ifb_eq (pc := 16) 28 C dX7_ifClosed_16 (by decide) (fun c_16 => ?_) (fun c_16 => ?_)
    · have hor : w < 0 ∨ 2 < w := by have h := c_16; unfold inB at h; simp at h; by_cases h1 : w < 0; exact Or.inl h1; exact Or.inr (h (Int32.not_lt.mp h1))
      have ho : rIC g (nI i) w = -2 := by unfold rIC; rw [c_5, if_pos rfl, if_pos hor]
      refine zj_bipush (pc := 28) (v := (-2)) C dX7_ifClosed_28 (by decide) ?_
      refine zj_iret C hr hlocks dX7_ifClosed_30 ?_
      exact zQ_mk ho.symm
    · have hr2 : ¬ w < 0 ∧ ¬ 2 < w := by have h2 := c_16; unfold inB at h2; simp at h2; exact ⟨Int32.not_lt.mpr h2.1, Int32.not_lt.mpr h2.2⟩
      have hnor : ¬ (w < 0 ∨ 2 < w) := fun h => h.elim hr2.1 hr2.2
      have hr1 := hr2.1
      have hr3 := hr2.2
      obtain ⟨w0, hw0, rfl⟩ := nI_of2 (x := w) (M := 2) (n := 2) rfl hr1 (Int32.not_lt.mp hr3)
      have ew : (nI w0).toNatClampNeg = w0 := nI_clamp (by omega)
      have ho : rIC g (nI i) (nI w0) = nI (clN g i w0) := by unfold rIC; rw [c_5, if_pos rfl, if_neg hnor, ei, ew]
      refine zj_aload_n (pc := 19) C dX7_ifClosed_19 rfl ?_
      refine zj_iload_n (pc := 20) C dX7_ifClosed_20 rfl ?_
      refine zj_iload_n (pc := 21) C dX7_ifClosed_21 rfl ?_
      refine zq_callQ (pc := 22) C kv_X7_240 (m_X7_closing hv hi (by omega)) dX7_ifClosed_22 rfl rfl rfl rfl rfl rfl ⟨0, rfl⟩ rfl rfl (fun iz22 wy22 wa22 tt22 rr22 we22 => ?_)
      refine zj_goto (pc := 25) (tgt := 30) C dX7_ifClosed_25 (by decide) ?_
      refine zj_iret C hr hlocks dX7_ifClosed_30 ?_
      exact zQ_mk ho.symm
  · have ho : rIC g x w = -1 := by unfold rIC; rw [c_5]; rfl
    refine zj_iconst (pc := 8) (v := (-1)) C dX7_ifClosed_8 (by decide) ?_
    refine zj_iret C hr hlocks dX7_ifClosed_9 ?_
    exact zQ_mk ho.symm
set_option maxRecDepth 100000 in
set_option maxHeartbeats 4000000 in
theorem m_X7_weakest {l : Launch} {G : GG} {m : Nat → Nat} {g ga gh : Nat → Nat} {kn : Nat} {gk : Nat → Nat} {kp : Bool} {tx : Nat → Nat} {ln : Nat} {iz wy wa tt rr we : Nat → Nat} {sp : Nat} {wr : Bool} {er : Int32} (hv : Vg g) : zX l G yX7_weakest cX7_weakest 5 (some .int) 7 166 0 0 [.ref (m 0)] (mB G m g ga gh kn gk kp tx ln iz wy wa tt rr we sp wr er).flatten (zQ (some (.int (optI (rwk g (kL g)).1))) G m g ga gh kn gk kp tx ln sp wr er) := by
  refine zj_startF RX7 (by decide +kernel) rfl rfl rfl (bs := (mB G m g ga gh kn gk kp tx ln iz wy wa tt rr we sp wr er)) rfl (lo := [some (.ref (m 0)), none, none, none, none]) rfl ?_
  intro p0 e0 s0 m0 args0 below0 meth0 c0 A0 C hr hlocks
  have hvk := Vk_of hv
  have hk24 := hv.1
  have hke : kL g = g 14 := rfl
  refine zj_bipush (pc := 0) (v := (-5)) C dX7_weakest_0 (by decide) ?_
  refine zj_istore_n (pc := 2) C dX7_weakest_2 (Nat.le_of_ble_eq_true rfl) ?_
  refine zj_iconst (pc := 3) (v := nI 0) C dX7_weakest_3 (by decide) ?_
  refine zj_istore_n (pc := 4) C dX7_weakest_4 (Nat.le_of_ble_eq_true rfl) ?_
  refine zj_iconst (pc := 5) (v := nI 0) C dX7_weakest_5 (by decide) ?_
  refine zj_istore_n (pc := 6) C dX7_weakest_6 (Nat.le_of_ble_eq_true rfl) ?_
  refine zj_keep [true, true, true, true, false] ?_
  refine zq_loop2 (fun (k : Nat) (S : (Nat → Nat) × (Nat → Nat) × (Nat → Nat) × (Nat → Nat) × (Nat → Nat) × (Nat → Nat)) => k ≤ kL g) (fun (k : Nat) (S : (Nat → Nat) × (Nat → Nat) × (Nat → Nat) × (Nat → Nat) × (Nat → Nat) × (Nat → Nat)) => kL g - k) (fun (k : Nat) (S : (Nat → Nat) × (Nat → Nat) × (Nat → Nat) × (Nat → Nat) × (Nat → Nat) × (Nat → Nat)) => (mB G m g ga gh kn gk kp tx ln S.1 S.2.1 S.2.2.1 S.2.2.2.1 S.2.2.2.2.1 S.2.2.2.2.2 sp wr er)) (fun (k : Nat) (S : (Nat → Nat) × (Nat → Nat) × (Nat → Nat) × (Nat → Nat) × (Nat → Nat) × (Nat → Nat)) => [some (.ref (m 0)), some (.int (optI (rwk g k).1)), some (.int (nI ((rwk g k).2))), some (.int (nI (k))), none]) ?_ 0 (iz, wy, wa, tt, rr, we) (Nat.zero_le _)
  intro k S hI ih_7
  have hb := rwk_le hvk k
  have hb2 := itN_le hvk k
  refine zj_iload_n (pc := 7) C dX7_weakest_7 rfl ?_
  refine zj_aload_n (pc := 8) C dX7_weakest_8 rfl ?_
  refine gf_X7_0 (pc := 9) C dX7_weakest_9 0 rfl ?_
  refine zj_bipush (pc := 12) (v := nI 14) C dX7_weakest_12 (by decide) ?_
  refine zq_iald (pc := 14) C dX7_weakest_14 1 rfl (by omega) (by decide) ?_
  refine zq_icmp_ge (pc := 15) 68 C dX7_weakest_15 (by decide) (by omega) (by omega) (fun c_15 => ?_) (fun c_15 => ?_)
  · refine zj_iload_n (pc := 68) C dX7_weakest_68 rfl ?_
    refine zj_iret C hr hlocks dX7_weakest_69 ?_
    exact zQ_mk (by rw [show k = kL g by omega])
  · refine zj_sipush (pc := 18) (v := nI 1000) C dX7_weakest_18 (by decide) ?_
    refine zj_aload_n (pc := 21) C dX7_weakest_21 rfl ?_
    refine zj_iload_n (pc := 22) C dX7_weakest_22 rfl ?_
    refine zj_iconst (pc := 23) (v := nI 0) C dX7_weakest_23 (by decide) ?_
    refine zq_callQ (pc := 24) C kv_X7_240 (m_X7_closing hv (by omega) (by decide)) dX7_weakest_24 rfl rfl rfl rfl rfl rfl ⟨0, rfl⟩ rfl rfl (fun iz24 wy24 wa24 tt24 rr24 we24 => ?_)
    refine zq_imul (pc := 27) C dX7_weakest_27 ?_
    refine zj_aload_n (pc := 28) C dX7_weakest_28 rfl ?_
    refine zj_iload_n (pc := 29) C dX7_weakest_29 rfl ?_
    refine zj_iconst (pc := 30) (v := nI 1) C dX7_weakest_30 (by decide) ?_
    refine zq_callQ (pc := 31) C kv_X7_240 (m_X7_closing hv (by omega) (by decide)) dX7_weakest_31 rfl rfl rfl rfl rfl rfl ⟨0, rfl⟩ rfl rfl (fun iz31 wy31 wa31 tt31 rr31 we31 => ?_)
    refine zq_iadd (pc := 34) C dX7_weakest_34 ?_
    refine zj_top (x' := nI (itN g k)) rfl ?_
    refine zj_istore (pc := 35) C dX7_weakest_35 (Nat.le_of_ble_eq_true rfl) ?_
    refine zq_mrg 48 [] (optI (rwk g (k + 1)).1) ?_ (fun kk => ?_)
    · refine zj_istore_n (pc := 48) C dX7_weakest_48 (Nat.le_of_ble_eq_true rfl) ?_
      refine zq_mrg 61 [] (nI ((rwk g (k + 1)).2)) ?_ (fun kk => ?_)
      · refine zj_istore_n (pc := 61) C dX7_weakest_61 (Nat.le_of_ble_eq_true rfl) ?_
        refine zj_iinc (pc := 62) (v := nI (k + 1)) C dX7_weakest_62 rfl (nI_1 _) ?_
        refine zj_goto (pc := 65) (tgt := 7) C dX7_weakest_65 (by decide) ?_
        refine zj_keep [true, true, true, true, false] ?_
        exact ih_7 (k + 1) (iz31, wy31, wa31, tt31, rr31, we31) (by omega) (by omega)
      · refine zj_iload (pc := 49) C dX7_weakest_49 rfl ?_
        refine zj_iload_n (pc := 51) C dX7_weakest_51 rfl ?_
        refine zq_icmp_le (pc := 52) 60 C dX7_weakest_52 (by decide) (by omega) (by omega) (fun c_52 => ?_) (fun c_52 => ?_)
        · refine zj_iload_n (pc := 60) C dX7_weakest_60 rfl ?_
          exact zj_top (x' := nI ((rwk g (k + 1)).2)) (congrArg nI (show _ = (if (rwk g k).2 < itN g k then itN g k else (rwk g k).2) by rw [if_neg (by omega)])) kk
        · refine zj_iload (pc := 55) C dX7_weakest_55 rfl ?_
          refine zj_goto (pc := 57) (tgt := 61) C dX7_weakest_57 (by decide) ?_
          exact zj_top (x' := nI ((rwk g (k + 1)).2)) (congrArg nI (show _ = (if (rwk g k).2 < itN g k then itN g k else (rwk g k).2) by rw [if_pos c_52])) kk
    · refine zj_iload (pc := 37) C dX7_weakest_37 rfl ?_
      refine zj_iload_n (pc := 39) C dX7_weakest_39 rfl ?_
      refine zq_icmp_le (pc := 40) 47 C dX7_weakest_40 (by decide) (by omega) (by omega) (fun c_40 => ?_) (fun c_40 => ?_)
      · refine zj_iload_n (pc := 47) C dX7_weakest_47 rfl ?_
        exact zj_top (x' := optI (rwk g (k + 1)).1) (show _ = optI (if (rwk g k).2 < itN g k then some k else (rwk g k).1) by rw [if_neg (by omega)]) kk
      · refine zj_iload_n (pc := 43) C dX7_weakest_43 rfl ?_
        refine zj_goto (pc := 44) (tgt := 48) C dX7_weakest_44 (by decide) ?_
        exact zj_top (x' := optI (rwk g (k + 1)).1) (show _ = optI (if (rwk g k).2 < itN g k then some k else (rwk g k).1) by rw [if_pos c_40]; rfl) kk
set_option maxRecDepth 100000 in
set_option maxHeartbeats 4000000 in
theorem m_X7_gainedBy {l : Launch} {G : GG} {m : Nat → Nat} {g ga gh : Nat → Nat} {kn : Nat} {gk : Nat → Nat} {kp : Bool} {tx : Nat → Nat} {ln : Nat} {iz wy wa tt rr we : Nat → Nat} {sp : Nat} {wr : Bool} {er : Int32} {x y d : Nat} (hv : Vg g) (hx : x < 14) (hy : y < 14) (hxy : x ≠ y) (hd : d < 4) : zX l G yX7_gainedBy cX7_gainedBy 5 (some .int) 6 143 0 0 [.ref (m 0), .int (nI (x)), .int (nI (y)), .int (nI (d))] (mB G m g ga gh kn gk kp tx ln iz wy wa tt rr we sp wr er).flatten (zF (some (.int (nI (gnN g x y d)))) (mB G m (updN (gAdd g x y 1 d) 14 (kL g)) ga gh kn gk kp tx ln (izV (gAdd g x y 1 d)) (wyV (gAdd g x y 1 d)) wa (ttV (gAdd g x y 1 d) (ttV g tt)) (rrV (gAdd g x y 1 d) (rrV g rr)) (ttV g tt) sp wr er).flatten) := by
  refine zj_startF RX7 (by decide +kernel) rfl rfl rfl (bs := (mB G m g ga gh kn gk kp tx ln iz wy wa tt rr we sp wr er)) rfl (lo := [some (.ref (m 0)), some (.int (nI (x))), some (.int (nI (y))), some (.int (nI (d))), none]) rfl ?_
  intro p0 e0 s0 m0 args0 below0 meth0 c0 A0 C hr hlocks
  have hvk := Vk_of hv
  have hk24 := hv.1
  refine zj_aload_n (pc := 0) C dX7_gainedBy_0 rfl ?_
  refine zq_callFn (pc := 1) (bs' := (mB G m g ga gh kn gk kp tx ln (izV g) (wyV g) wa (ttV g tt) (rrV g rr) (ttV g tt) sp wr er)) C kv_X7_234 (m_X7_putAside hvk) dX7_gainedBy_1 rfl rfl rfl rfl rfl rfl ⟨0, rfl⟩ rfl rfl ?_
  refine zj_aload_n (pc := 4) C dX7_gainedBy_4 rfl ?_
  refine zj_iload_n (pc := 5) C dX7_gainedBy_5 rfl ?_
  refine zj_iload_n (pc := 6) C dX7_gainedBy_6 rfl ?_
  refine zj_iconst (pc := 7) (v := nI 1) C dX7_gainedBy_7 (by decide) ?_
  refine zj_iload_n (pc := 8) C dX7_gainedBy_8 rfl ?_
  refine zq_callFn (pc := 9) (bs' := (mB G m (gAdd g x y 1 d) ga gh kn gk kp tx ln (izV g) (wyV g) wa (ttV g tt) (rrV g rr) (ttV g tt) sp wr er)) C kv_X7_137 (m_X7_comes hk24) dX7_gainedBy_9 rfl rfl rfl rfl rfl rfl ⟨0, rfl⟩ rfl rfl ?_
  refine zj_aload_n (pc := 12) C dX7_gainedBy_12 rfl ?_
  refine zj_iconst (pc := 13) (v := nI 3) C dX7_gainedBy_13 (by decide) ?_
  refine zq_callF (pc := 14) (bs' := (mB G m (gAdd g x y 1 d) ga gh kn gk kp tx ln (izV (gAdd g x y 1 d)) (wyV (gAdd g x y 1 d)) wa (ttV (gAdd g x y 1 d) (ttV g tt)) (rrV (gAdd g x y 1 d) (rrV g rr)) (ttV g tt) sp wr er)) C kv_X7_237 (m_X7_changes (Vk_add hv hx hy hxy hd) (by decide) (fun k hk => by rw [kA_add hk24] at hk; rw [ttV_k hk]; exact FS_le _ _ _)) dX7_gainedBy_14 rfl rfl rfl rfl rfl rfl ⟨0, rfl⟩ rfl rfl ?_
  refine zj_top (x' := nI (gnN g x y d)) (congrArg nI (by unfold gnN; rw [kA_add hk24]; exact cgN_c (fun k hk => ttV_k hk) (fun k hk => ttV_k (by rw [kA_add hk24]; exact hk)))) ?_
  refine zj_istore (pc := 17) C dX7_gainedBy_17 (Nat.le_of_ble_eq_true rfl) ?_
  refine zj_aload_n (pc := 19) C dX7_gainedBy_19 rfl ?_
  refine gf_X7_0 (pc := 20) C dX7_gainedBy_20 0 rfl ?_
  refine zj_bipush (pc := 23) (v := nI 14) C dX7_gainedBy_23 (by decide) ?_
  refine zj_dup2 (pc := 25) C dX7_gainedBy_25 rfl rfl ?_
  refine zq_iald (pc := 26) C dX7_gainedBy_26 1 rfl (by omega) (by decide) ?_
  refine zj_top (x' := nI (kL g + 1)) (congrArg nI add_k) ?_
  refine zj_iconst (pc := 27) (v := nI 1) C dX7_gainedBy_27 (by decide) ?_
  refine zq_isub (pc := 28) C dX7_gainedBy_28 (by omega) ?_
  refine zq_iast (pc := 29) C dX7_gainedBy_29 1 rfl (by omega) (by decide) ?_
  refine zj_blk (bs' := (mB G m (updN (gAdd g x y 1 d) 14 ((kL g + 1) - 1)) ga gh kn gk kp tx ln (izV (gAdd g x y 1 d)) (wyV (gAdd g x y 1 d)) wa (ttV (gAdd g x y 1 d) (ttV g tt)) (rrV (gAdd g x y 1 d) (rrV g rr)) (ttV g tt) sp wr er)) rfl ?_
  refine zj_blk (bs' := (mB G m (updN (gAdd g x y 1 d) 14 (kL g)) ga gh kn gk kp tx ln (izV (gAdd g x y 1 d)) (wyV (gAdd g x y 1 d)) wa (ttV (gAdd g x y 1 d) (ttV g tt)) (rrV (gAdd g x y 1 d) (rrV g rr)) (ttV g tt) sp wr er)) rfl ?_
  refine zj_iload (pc := 30) C dX7_gainedBy_30 rfl ?_
  exact zj_iretF C hr hlocks dX7_gainedBy_32 rfl rfl
