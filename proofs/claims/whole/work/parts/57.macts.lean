/-! THE REFERENCE'S ACTS -/
def shI' (gh : Nat → Nat) (j : Nat) : Nat → Nat := fun k => if k < j then gh (k + 177) else gh k
def cpI (H g : Nat → Nat) (b j : Nat) : Nat → Nat := fun k => if b ≤ k ∧ k < b + j then g (k - b) else H k
def rcH (gh g : Nat → Nat) (kn : Nat) : Nat → Nat := if kn = 4 then cpI (shI' gh 531) g 531 177 else cpI gh g (177 * kn) 177
def rcN (kn : Nat) : Nat := if kn = 4 then 4 else kn + 1
theorem shI'_0 {gh : Nat → Nat} : shI' gh 0 = gh := by
  funext k
  exact if_neg (by omega)
theorem shI'_s {gh : Nat → Nat} {j : Nat} : updN (shI' gh j) j (shI' gh j (j + 177)) = shI' gh (j + 1) := by
  funext k
  unfold updN shI'
  by_cases h : k = j
  · subst h; rw [if_pos rfl, if_neg (by omega), if_pos (by omega)]
  · rw [if_neg h]
    by_cases h2 : k < j
    · rw [if_pos h2, if_pos (by omega)]
    · rw [if_neg h2, if_neg (by omega)]
theorem cpI_0 {H g : Nat → Nat} {b : Nat} : cpI H g b 0 = H := by
  funext k
  exact if_neg (by omega)
theorem cpI_s {H g : Nat → Nat} {b j : Nat} : updN (cpI H g b j) (b + j) (g j) = cpI H g b (j + 1) := by
  funext k
  unfold updN cpI
  by_cases h : k = b + j
  · subst h; rw [if_pos rfl, if_pos (by omega), show b + j - b = j by omega]
  · rw [if_neg h]
    by_cases h2 : b ≤ k ∧ k < b + j
    · rw [if_pos h2, if_pos (by omega)]
    · rw [if_neg h2, if_neg (by omega)]
/-- a copy from below -/
def cyI (F H : Nat → Nat) (j : Nat) : Nat → Nat := fun k => if k < j then F k else H k
theorem cyI_0 {F H : Nat → Nat} : cyI F H 0 = H := by
  funext k
  exact if_neg (by omega)
theorem cyI_s {F H : Nat → Nat} {j : Nat} : updN (cyI F H j) j (F j) = cyI F H (j + 1) := by
  funext k
  unfold updN cyI
  by_cases h : k = j
  · subst h; rw [if_pos rfl, if_pos (by omega)]
  · rw [if_neg h]
    by_cases h2 : k < j
    · rw [if_pos h2, if_pos (by omega)]
    · rw [if_neg h2, if_neg (by omega)]
def shG (g : Nat → Nat) (w a j : Nat) : Nat → Nat := fun k => if a ≤ k ∧ k < j then g (k + w) else g k
theorem shG_0 {g : Nat → Nat} {w a : Nat} : shG g w a a = g := by
  funext k
  exact if_neg (by omega)
theorem shG_s {g : Nat → Nat} {w a j : Nat} (h0 : a ≤ j) (hw : 0 < w) : updN (shG g w a j) j (shG g w a j (j + w)) = shG g w a (j + 1) := by
  funext k
  unfold updN shG
  by_cases h : k = j
  · subst h; rw [if_pos rfl, if_neg (by omega), if_pos (by omega)]
  · rw [if_neg h]
    by_cases h2 : a ≤ k ∧ k < j
    · rw [if_pos h2, if_pos (by omega)]
    · rw [if_neg h2, if_neg (by omega)]
def erL (k : Nat) (x y ln d : Int32) : Int32 := if (isC x && (isC y && isDi d)) = true then refL k x y ln else -1
def erA (k : Nat) (x ln d : Int32) : Int32 := if (isC x && isDi d) = true then refA k ln else -1
theorem okLn_f {k : Nat} {x y ln d : Int32} (h : ¬ erL k x y ln d = 0) : okLn k x y ln d = false ∧ aLn k x y ln d = erL k x y ln d := by
  unfold erL at h
  unfold okLn aLn erL
  by_cases c : (isC x && (isC y && isDi d)) = true
  · rw [if_pos c] at h
    rw [if_pos c, if_pos c, if_neg h, c, decide_eq_false h]
    exact ⟨rfl, rfl⟩
  · rw [if_neg c, if_neg c, Bool.eq_false_iff.mpr c]
    exact ⟨rfl, rfl⟩
theorem okLn_t {k : Nat} {x y ln d : Int32} (h : erL k x y ln d = 0) : okLn k x y ln d = true ∧ aLn k x y ln d = nI k := by
  unfold erL at h
  unfold okLn aLn
  by_cases c : (isC x && (isC y && isDi d)) = true
  · rw [if_pos c] at h
    rw [if_pos c, if_pos h, c, decide_eq_true h]
    exact ⟨rfl, rfl⟩
  · rw [if_neg c] at h
    cases h
theorem okAl_f {k : Nat} {x ln d : Int32} (h : ¬ erA k x ln d = 0) : okAl k x ln d = false ∧ aAl k x ln d = erA k x ln d := by
  unfold erA at h
  unfold okAl aAl erA
  by_cases c : (isC x && isDi d) = true
  · rw [if_pos c] at h
    rw [if_pos c, if_pos c, if_neg h, c, decide_eq_false h]
    exact ⟨rfl, rfl⟩
  · rw [if_neg c, if_neg c, Bool.eq_false_iff.mpr c]
    exact ⟨rfl, rfl⟩
theorem okAl_t {k : Nat} {x ln d : Int32} (h : erA k x ln d = 0) : okAl k x ln d = true ∧ aAl k x ln d = nI k := by
  unfold erA at h
  unfold okAl aAl
  by_cases c : (isC x && isDi d) = true
  · rw [if_pos c] at h
    rw [if_pos c, if_pos h, c, decide_eq_true h]
    exact ⟨rfl, rfl⟩
  · rw [if_neg c] at h
    cases h
theorem okLn_n {k : Nat} {x y ln d : Int32} (h : okLn k x y ln d = true) : ∃ x0 y0 l0 d0, x = nI x0 ∧ y = nI y0 ∧ ln = nI l0 ∧ d = nI d0 ∧ x0 < 14 ∧ y0 < 14 ∧ x0 ≠ y0 ∧ 1 ≤ l0 ∧ l0 ≤ 20 ∧ d0 < 4 ∧ k ≠ 24 := by
  unfold okLn at h
  simp only [Bool.and_eq_true, decide_eq_true_eq] at h
  obtain ⟨⟨h1, h2, h3⟩, h4⟩ := h
  obtain ⟨x0, hx, rfl⟩ := isC_n h1
  obtain ⟨y0, hy, rfl⟩ := isC_n h2
  obtain ⟨d0, hd, rfl⟩ := isDi_n h3
  obtain ⟨r1, r2, r3, r4⟩ := refL_0 h4
  obtain ⟨l0, hl, rfl⟩ := nI_of2 (x := ln) (M := 20) (n := 20) rfl (fun h => r1 (Int32.lt_trans h (by decide))) (Int32.not_lt.mp r2)
  refine ⟨x0, y0, l0, d0, rfl, rfl, rfl, rfl, hx, hy, fun h => r3 (by rw [h]), ?_, hl, hd, r4⟩
  have := mt (nI_ltI (a := l0) (b := 1) (by omega) (by decide)).mpr r1
  omega
theorem okAl_n {k : Nat} {x ln d : Int32} (h : okAl k x ln d = true) : ∃ x0 l0 d0, x = nI x0 ∧ ln = nI l0 ∧ d = nI d0 ∧ x0 < 14 ∧ l0 ≤ 20 ∧ d0 < 4 ∧ k ≠ 12 := by
  unfold okAl at h
  simp only [Bool.and_eq_true, decide_eq_true_eq] at h
  obtain ⟨⟨h1, h3⟩, h4⟩ := h
  obtain ⟨x0, hx, rfl⟩ := isC_n h1
  obtain ⟨d0, hd, rfl⟩ := isDi_n h3
  obtain ⟨r1, r2, r4⟩ := refA_0 h4
  obtain ⟨l0, hl, rfl⟩ := nI_of2 (x := ln) (M := 20) (n := 20) rfl r1 (Int32.not_lt.mp r2)
  exact ⟨x0, l0, d0, rfl, rfl, rfl, hx, hl, hd, r4⟩

set_option maxRecDepth 100000 in
set_option maxHeartbeats 4000000 in
theorem m_X7_record {l : Launch} {G : GG} {m : Nat → Nat} {g ga gh : Nat → Nat} {kn : Nat} {gk : Nat → Nat} {kp : Bool} {tx : Nat → Nat} {ln : Nat} {iz wy wa tt rr we : Nat → Nat} {sp : Nat} {wr : Bool} {er : Int32} (hk : kn ≤ 4) : zX l G yX7_record cX7_record 2 none 0 0 0 0 [.ref (m 0)] (mB G m g ga gh kn gk kp tx ln iz wy wa tt rr we sp wr er).flatten (zF none (mB G m g ga (rcH gh g kn) (rcN kn) gk kp tx ln iz wy wa tt rr we sp wr er).flatten) := by
  refine zj_startF RX7 (by decide +kernel) rfl rfl rfl (bs := (mB G m g ga gh kn gk kp tx ln iz wy wa tt rr we sp wr er)) rfl (lo := [some (.ref (m 0)), none]) rfl ?_
  intro p0 e0 s0 m0 args0 below0 meth0 c0 A0 C hr hlocks
  refine zj_aload_n (pc := 0) C dX7_record_0 rfl ?_
  refine gf_X7_3 (pc := 1) C dX7_record_1 0 rfl ?_
  refine zj_iconst (pc := 4) (v := nI 4) C dX7_record_4 (by decide) ?_
  refine zq_icmp_ne (pc := 5) 49 C dX7_record_5 (by decide) (by omega) (by omega) (fun c_5 => ?_) (fun c_5 => ?_)
  · refine zj_iconst (pc := 49) (v := nI 0) C dX7_record_49 (by decide) ?_
    refine zj_istore_n (pc := 50) C dX7_record_50 (Nat.le_of_ble_eq_true rfl) ?_
    refine zj_blk (bs' := (mB G m g ga (cpI (gh) g (177 * kn) (0)) kn gk kp tx ln iz wy wa tt rr we sp wr er)) (by rw [cpI_0]) ?_
    refine zj_keep [true, true] ?_
    refine zq_loop1 (fun (i : Nat) => i ≤ 177) (fun (i : Nat) => 177 - i) (fun (i : Nat) => (mB G m g ga (cpI (gh) g (177 * kn) (i)) kn gk kp tx ln iz wy wa tt rr we sp wr er)) (fun (i : Nat) => [some (.ref (m 0)), some (.int (nI (i)))]) ?_ 0 (Nat.zero_le _)
    intro i hI ih_51
    refine zj_iload_n (pc := 51) C dX7_record_51 rfl ?_
    refine zj_sipush (pc := 52) (v := nI 177) C dX7_record_52 (by decide) ?_
    refine zq_icmp_ge (pc := 55) 85 C dX7_record_55 (by decide) (by omega) (by omega) (fun c_55 => ?_) (fun c_55 => ?_)
    · refine zj_aload_n (pc := 85) C dX7_record_85 rfl ?_
      refine zj_dup (pc := 86) C dX7_record_86 rfl ?_
      refine gf_X7_3 (pc := 87) C dX7_record_87 0 rfl ?_
      refine zj_iconst (pc := 90) (v := nI 1) C dX7_record_90 (by decide) ?_
      refine zq_iadd (pc := 91) C dX7_record_91 ?_
      refine pf_X7_3 (pc := 92) C dX7_record_92 0 rfl ?_
      refine zj_blk (bs' := (mB G m g ga (cpI (gh) g (177 * kn) (i)) (kn + 1) gk kp tx ln iz wy wa tt rr we sp wr er)) rfl ?_
      exact zj_vretF C hr hlocks dX7_record_95 (by unfold rcH rcN; rw [if_neg c_5, if_neg c_5, show i = 177 by omega])
    · refine zj_aload_n (pc := 58) C dX7_record_58 rfl ?_
      refine gf_X7_2 (pc := 59) C dX7_record_59 0 rfl ?_
      refine zj_sipush (pc := 62) (v := nI 177) C dX7_record_62 (by decide) ?_
      refine zj_aload_n (pc := 65) C dX7_record_65 rfl ?_
      refine gf_X7_3 (pc := 66) C dX7_record_66 0 rfl ?_
      refine zq_imul (pc := 69) C dX7_record_69 ?_
      refine zj_iload_n (pc := 70) C dX7_record_70 rfl ?_
      refine zq_iadd (pc := 71) C dX7_record_71 ?_
      refine zj_aload_n (pc := 72) C dX7_record_72 rfl ?_
      refine gf_X7_0 (pc := 73) C dX7_record_73 0 rfl ?_
      refine zj_iload_n (pc := 76) C dX7_record_76 rfl ?_
      refine zq_iald (pc := 77) C dX7_record_77 1 rfl (by omega) (by decide) ?_
      refine zq_iast (pc := 78) C dX7_record_78 3 rfl (by omega) (by decide) ?_
      refine zj_blk (bs' := (mB G m g ga (updN (cpI (gh) g (177 * kn) (i)) (177 * kn + i) (g i)) kn gk kp tx ln iz wy wa tt rr we sp wr er)) rfl ?_
      refine zj_iinc (pc := 79) (v := nI (i + 1)) C dX7_record_79 rfl (nI_1 _) ?_
      refine zj_goto (pc := 82) (tgt := 51) C dX7_record_82 (by decide) ?_
      refine zj_blk (bs' := (mB G m g ga (cpI (gh) g (177 * kn) (i + 1)) kn gk kp tx ln iz wy wa tt rr we sp wr er)) (by rw [cpI_s]) ?_
      refine zj_keep [true, true] ?_
      exact ih_51 (i + 1) (by omega) (by omega)
  · refine zj_iconst (pc := 8) (v := nI 0) C dX7_record_8 (by decide) ?_
    refine zj_istore_n (pc := 9) C dX7_record_9 (Nat.le_of_ble_eq_true rfl) ?_
    refine zj_blk (bs' := (mB G m g ga (shI' gh 0) kn gk kp tx ln iz wy wa tt rr we sp wr er)) (by rw [shI'_0]) ?_
    refine zj_keep [true, true] ?_
    refine zq_loop1 (fun (j : Nat) => j ≤ 531) (fun (j : Nat) => 531 - j) (fun (j : Nat) => (mB G m g ga (shI' gh j) kn gk kp tx ln iz wy wa tt rr we sp wr er)) (fun (j : Nat) => [some (.ref (m 0)), some (.int (nI (j)))]) ?_ 0 (Nat.zero_le _)
    intro j hI ih_10
    refine zj_iload_n (pc := 10) C dX7_record_10 rfl ?_
    refine zj_sipush (pc := 11) (v := nI 531) C dX7_record_11 (by decide) ?_
    refine zq_icmp_ge (pc := 14) 39 C dX7_record_14 (by decide) (by omega) (by omega) (fun c_14 => ?_) (fun c_14 => ?_)
    · refine zj_blk (bs' := (mB G m g ga (shI' gh 531) kn gk kp tx ln iz wy wa tt rr we sp wr er)) (by rw [show j = 531 by omega]) ?_
      refine zj_aload_n (pc := 39) C dX7_record_39 rfl ?_
      refine zj_dup (pc := 40) C dX7_record_40 rfl ?_
      refine gf_X7_3 (pc := 41) C dX7_record_41 0 rfl ?_
      refine zj_iconst (pc := 44) (v := nI 1) C dX7_record_44 (by decide) ?_
      refine zq_isub (pc := 45) C dX7_record_45 (by omega) ?_
      refine pf_X7_3 (pc := 46) C dX7_record_46 0 rfl ?_
      refine zj_blk (bs' := (mB G m g ga (shI' gh 531) (kn - 1) gk kp tx ln iz wy wa tt rr we sp wr er)) rfl ?_
      refine zj_iconst (pc := 49) (v := nI 0) C dX7_record_49 (by decide) ?_
      refine zj_istore_n (pc := 50) C dX7_record_50 (Nat.le_of_ble_eq_true rfl) ?_
      refine zj_blk (bs' := (mB G m g ga (cpI (shI' gh 531) g (177 * (kn - 1)) (0)) (kn - 1) gk kp tx ln iz wy wa tt rr we sp wr er)) (by rw [cpI_0]) ?_
      refine zj_keep [true, true] ?_
      refine zq_loop1 (fun (i : Nat) => i ≤ 177) (fun (i : Nat) => 177 - i) (fun (i : Nat) => (mB G m g ga (cpI (shI' gh 531) g (177 * (kn - 1)) (i)) (kn - 1) gk kp tx ln iz wy wa tt rr we sp wr er)) (fun (i : Nat) => [some (.ref (m 0)), some (.int (nI (i)))]) ?_ 0 (Nat.zero_le _)
      intro i hI ih_51
      refine zj_iload_n (pc := 51) C dX7_record_51 rfl ?_
      refine zj_sipush (pc := 52) (v := nI 177) C dX7_record_52 (by decide) ?_
      refine zq_icmp_ge (pc := 55) 85 C dX7_record_55 (by decide) (by omega) (by omega) (fun c_55 => ?_) (fun c_55 => ?_)
      · refine zj_aload_n (pc := 85) C dX7_record_85 rfl ?_
        refine zj_dup (pc := 86) C dX7_record_86 rfl ?_
        refine gf_X7_3 (pc := 87) C dX7_record_87 0 rfl ?_
        refine zj_iconst (pc := 90) (v := nI 1) C dX7_record_90 (by decide) ?_
        refine zq_iadd (pc := 91) C dX7_record_91 ?_
        refine pf_X7_3 (pc := 92) C dX7_record_92 0 rfl ?_
        refine zj_blk (bs' := (mB G m g ga (cpI (shI' gh 531) g (177 * (kn - 1)) (i)) (kn - 1 + 1) gk kp tx ln iz wy wa tt rr we sp wr er)) rfl ?_
        exact zj_vretF C hr hlocks dX7_record_95 (by rw [show i = 177 by omega, c_5]; rfl)
      · refine zj_aload_n (pc := 58) C dX7_record_58 rfl ?_
        refine gf_X7_2 (pc := 59) C dX7_record_59 0 rfl ?_
        refine zj_sipush (pc := 62) (v := nI 177) C dX7_record_62 (by decide) ?_
        refine zj_aload_n (pc := 65) C dX7_record_65 rfl ?_
        refine gf_X7_3 (pc := 66) C dX7_record_66 0 rfl ?_
        refine zq_imul (pc := 69) C dX7_record_69 ?_
        refine zj_iload_n (pc := 70) C dX7_record_70 rfl ?_
        refine zq_iadd (pc := 71) C dX7_record_71 ?_
        refine zj_aload_n (pc := 72) C dX7_record_72 rfl ?_
        refine gf_X7_0 (pc := 73) C dX7_record_73 0 rfl ?_
        refine zj_iload_n (pc := 76) C dX7_record_76 rfl ?_
        refine zq_iald (pc := 77) C dX7_record_77 1 rfl (by omega) (by decide) ?_
        refine zq_iast (pc := 78) C dX7_record_78 3 rfl (by omega) (by decide) ?_
        refine zj_blk (bs' := (mB G m g ga (updN (cpI (shI' gh 531) g (177 * (kn - 1)) (i)) (177 * (kn - 1) + i) (g i)) (kn - 1) gk kp tx ln iz wy wa tt rr we sp wr er)) rfl ?_
        refine zj_iinc (pc := 79) (v := nI (i + 1)) C dX7_record_79 rfl (nI_1 _) ?_
        refine zj_goto (pc := 82) (tgt := 51) C dX7_record_82 (by decide) ?_
        refine zj_blk (bs' := (mB G m g ga (cpI (shI' gh 531) g (177 * (kn - 1)) (i + 1)) (kn - 1) gk kp tx ln iz wy wa tt rr we sp wr er)) (by rw [cpI_s]) ?_
        refine zj_keep [true, true] ?_
        exact ih_51 (i + 1) (by omega) (by omega)
    · refine zj_aload_n (pc := 17) C dX7_record_17 rfl ?_
      refine gf_X7_2 (pc := 18) C dX7_record_18 0 rfl ?_
      refine zj_iload_n (pc := 21) C dX7_record_21 rfl ?_
      refine zj_aload_n (pc := 22) C dX7_record_22 rfl ?_
      refine gf_X7_2 (pc := 23) C dX7_record_23 0 rfl ?_
      refine zj_iload_n (pc := 26) C dX7_record_26 rfl ?_
      refine zj_sipush (pc := 27) (v := nI 177) C dX7_record_27 (by decide) ?_
      refine zq_iadd (pc := 30) C dX7_record_30 ?_
      refine zq_iald (pc := 31) C dX7_record_31 3 rfl (by omega) (by decide) ?_
      refine zq_iast (pc := 32) C dX7_record_32 3 rfl (by omega) (by decide) ?_
      refine zj_blk (bs' := (mB G m g ga (updN (shI' gh j) j ((shI' gh j) (j + 177))) kn gk kp tx ln iz wy wa tt rr we sp wr er)) rfl ?_
      refine zj_iinc (pc := 33) (v := nI (j + 1)) C dX7_record_33 rfl (nI_1 _) ?_
      refine zj_goto (pc := 36) (tgt := 10) C dX7_record_36 (by decide) ?_
      refine zj_blk (bs' := (mB G m g ga (shI' gh (j + 1)) kn gk kp tx ln iz wy wa tt rr we sp wr er)) (by rw [shI'_s]) ?_
      refine zj_keep [true, true] ?_
      exact ih_10 (j + 1) (by omega) (by omega)
set_option maxRecDepth 100000 in
set_option maxHeartbeats 4000000 in
theorem m_X7_errorOfLane {l : Launch} {G : GG} {m : Nat → Nat} {g ga gh : Nat → Nat} {kn : Nat} {gk : Nat → Nat} {kp : Bool} {tx : Nat → Nat} {ln : Nat} {iz wy wa tt rr we : Nat → Nat} {sp : Nat} {wr : Bool} {er : Int32} {x y lq d : Int32} (hv : Vk g) : zX l G yX7_errorOfLane cX7_errorOfLane 5 (some .int) 2 42 0 0 [.ref (m 0), .int (x), .int (y), .int (lq), .int (d)] (mB G m g ga gh kn gk kp tx ln iz wy wa tt rr we sp wr er).flatten (zF (some (.int (erL (kL g) x y lq d))) (mB G m g ga gh kn gk kp tx ln iz wy wa tt rr we sp wr er).flatten) := by
  refine zj_startF RX7 (by decide +kernel) rfl rfl rfl (bs := (mB G m g ga gh kn gk kp tx ln iz wy wa tt rr we sp wr er)) rfl (lo := [some (.ref (m 0)), some (.int (x)), some (.int (y)), some (.int (lq)), some (.int (d))]) rfl ?_
  intro p0 e0 s0 m0 args0 below0 meth0 c0 A0 C hr hlocks
  have hk : kL g ≤ 25 := hv.1
  have hke : kL g = g 14 := rfl
  have he : erL (kL g) x y lq d = if (isC x && (isC y && isDi d)) = true then refL (kL g) x y lq else -1 := rfl
  have hr9 : refL (kL g) x y lq = if lq < 1 ∨ 20 < lq ∨ x = y then -2 else if kL g = 24 then -3 else 0 := rfl
  refine zj_iload_n (pc := 0) C dX7_errorOfLane_0 rfl ?_
  refine zj_callSF (pc := 1) C kv_X7_125 (m_X7_isCrossing) dX7_errorOfLane_1 rfl rfl rfl rfl rfl rfl ?_
  refine zj_ifb_eq (pc := 4) 22 C dX7_errorOfLane_4 (by decide) (fun c_4 => ?_) (fun c_4 => ?_)
  · refine zj_iconst (pc := 22) (v := (-1)) C dX7_errorOfLane_22 (by decide) ?_
    exact zj_iretF C hr hlocks dX7_errorOfLane_23 (by rw [he, if_neg (by simp [c_4])]) rfl
  · refine zj_iload_n (pc := 7) C dX7_errorOfLane_7 rfl ?_
    refine zj_callSF (pc := 8) C kv_X7_125 (m_X7_isCrossing) dX7_errorOfLane_8 rfl rfl rfl rfl rfl rfl ?_
    refine zj_ifb_eq (pc := 11) 22 C dX7_errorOfLane_11 (by decide) (fun c_11 => ?_) (fun c_11 => ?_)
    · refine zj_iconst (pc := 22) (v := (-1)) C dX7_errorOfLane_22 (by decide) ?_
      exact zj_iretF C hr hlocks dX7_errorOfLane_23 (by rw [he, if_neg (by simp [c_4, c_11])]) rfl
    · refine zj_iload (pc := 14) C dX7_errorOfLane_14 rfl ?_
      refine zj_callSF (pc := 16) C kv_X7_128 (m_X7_isDistrict) dX7_errorOfLane_16 rfl rfl rfl rfl rfl rfl ?_
      refine zj_ifb_ne (pc := 19) 24 C dX7_errorOfLane_19 (by decide) (fun c_19 => ?_) (fun c_19 => ?_)
      · rw [if_pos (by rw [c_4, c_11, c_19]; rfl), hr9] at he
        refine zj_iload_n (pc := 24) C dX7_errorOfLane_24 rfl ?_
        refine zj_iconst (pc := 25) (v := nI 1) C dX7_errorOfLane_25 (by decide) ?_
        refine zj_bipush (pc := 26) (v := nI 20) C dX7_errorOfLane_26 (by decide) ?_
        refine zj_callSF (pc := 28) C kv_X7_43 (m_X7_in) dX7_errorOfLane_28 rfl rfl rfl rfl rfl rfl ?_
        refine zj_ifb_eq (pc := 31) 39 C dX7_errorOfLane_31 (by decide) (fun c_31 => ?_) (fun c_31 => ?_)
        · have hor : lq < 1 ∨ 20 < lq ∨ x = y := by have h := c_31; unfold inB at h; simp at h; by_cases h1 : lq < 1; exact Or.inl h1; exact Or.inr (Or.inl (h (Int32.not_lt.mp h1)))
          rw [if_pos hor] at he
          refine zj_bipush (pc := 39) (v := (-2)) C dX7_errorOfLane_39 (by decide) ?_
          exact zj_iretF C hr hlocks dX7_errorOfLane_41 he.symm rfl
        · refine zj_iload_n (pc := 34) C dX7_errorOfLane_34 rfl ?_
          refine zj_iload_n (pc := 35) C dX7_errorOfLane_35 rfl ?_
          refine zj_icmp_ne (pc := 36) 42 C dX7_errorOfLane_36 (by decide) (fun c_36 => ?_) (fun c_36 => ?_)
          · have hnor : ¬ (lq < 1 ∨ 20 < lq ∨ x = y) := by
              intro h; have h2 := c_31; unfold inB at h2; simp at h2
              rcases h with h | h | h
              · exact absurd h (Int32.not_lt.mpr h2.1)
              · exact absurd h (Int32.not_lt.mpr h2.2)
              · exact c_36 h
            rw [if_neg hnor] at he
            refine zj_aload_n (pc := 42) C dX7_errorOfLane_42 rfl ?_
            refine gf_X7_0 (pc := 43) C dX7_errorOfLane_43 0 rfl ?_
            refine zj_bipush (pc := 46) (v := nI 14) C dX7_errorOfLane_46 (by decide) ?_
            refine zq_iald (pc := 48) C dX7_errorOfLane_48 1 rfl (by omega) (by decide) ?_
            refine zj_bipush (pc := 49) (v := nI 24) C dX7_errorOfLane_49 (by decide) ?_
            refine zq_icmp_ne (pc := 51) 59 C dX7_errorOfLane_51 (by decide) (by omega) (by omega) (fun c_51 => ?_) (fun c_51 => ?_)
            · refine zj_iconst (pc := 59) (v := nI 0) C dX7_errorOfLane_59 (by decide) ?_
              exact zj_iretF C hr hlocks dX7_errorOfLane_60 (by rw [he, if_neg (fun h => c_51 (hke.symm.trans h))]; rfl) rfl
            · refine zj_bipush (pc := 54) (v := (-3)) C dX7_errorOfLane_54 (by decide) ?_
              refine zj_goto (pc := 56) (tgt := 60) C dX7_errorOfLane_56 (by decide) ?_
              exact zj_iretF C hr hlocks dX7_errorOfLane_60 (by rw [he, if_pos (hke.trans c_51)]) rfl
          · have hor : lq < 1 ∨ 20 < lq ∨ x = y := Or.inr (Or.inr c_36)
            rw [if_pos hor] at he
            refine zj_bipush (pc := 39) (v := (-2)) C dX7_errorOfLane_39 (by decide) ?_
            exact zj_iretF C hr hlocks dX7_errorOfLane_41 he.symm rfl
      · refine zj_iconst (pc := 22) (v := (-1)) C dX7_errorOfLane_22 (by decide) ?_
        exact zj_iretF C hr hlocks dX7_errorOfLane_23 (by rw [he, if_neg (by simp [c_4, c_11, c_19])]) rfl
set_option maxRecDepth 100000 in
set_option maxHeartbeats 4000000 in
theorem m_X7_errorOfAlley {l : Launch} {G : GG} {m : Nat → Nat} {g ga gh : Nat → Nat} {kn : Nat} {gk : Nat → Nat} {kp : Bool} {tx : Nat → Nat} {ln : Nat} {iz wy wa tt rr we : Nat → Nat} {sp : Nat} {wr : Bool} {er : Int32} {x lq d : Int32} (hv : Vk g) : zX l G yX7_errorOfAlley cX7_errorOfAlley 4 (some .int) 2 42 0 0 [.ref (m 0), .int (x), .int (lq), .int (d)] (mB G m g ga gh kn gk kp tx ln iz wy wa tt rr we sp wr er).flatten (zF (some (.int (erA (kA g) x lq d))) (mB G m g ga gh kn gk kp tx ln iz wy wa tt rr we sp wr er).flatten) := by
  refine zj_startF RX7 (by decide +kernel) rfl rfl rfl (bs := (mB G m g ga gh kn gk kp tx ln iz wy wa tt rr we sp wr er)) rfl (lo := [some (.ref (m 0)), some (.int (x)), some (.int (lq)), some (.int (d))]) rfl ?_
  intro p0 e0 s0 m0 args0 below0 meth0 c0 A0 C hr hlocks
  have ha : kA g ≤ 12 := hv.2.1
  have hae : kA g = g 140 := rfl
  have he : erA (kA g) x lq d = if (isC x && isDi d) = true then refA (kA g) lq else -1 := rfl
  have hr9 : refA (kA g) lq = if lq < 0 ∨ 20 < lq then -2 else if kA g = 12 then -3 else 0 := rfl
  refine zj_iload_n (pc := 0) C dX7_errorOfAlley_0 rfl ?_
  refine zj_callSF (pc := 1) C kv_X7_125 (m_X7_isCrossing) dX7_errorOfAlley_1 rfl rfl rfl rfl rfl rfl ?_
  refine zj_ifb_eq (pc := 4) 14 C dX7_errorOfAlley_4 (by decide) (fun c_4 => ?_) (fun c_4 => ?_)
  · refine zj_iconst (pc := 14) (v := (-1)) C dX7_errorOfAlley_14 (by decide) ?_
    exact zj_iretF C hr hlocks dX7_errorOfAlley_15 (by rw [he, if_neg (by simp [c_4])]) rfl
  · refine zj_iload_n (pc := 7) C dX7_errorOfAlley_7 rfl ?_
    refine zj_callSF (pc := 8) C kv_X7_128 (m_X7_isDistrict) dX7_errorOfAlley_8 rfl rfl rfl rfl rfl rfl ?_
    refine zj_ifb_ne (pc := 11) 16 C dX7_errorOfAlley_11 (by decide) (fun c_11 => ?_) (fun c_11 => ?_)
    · rw [if_pos (by rw [c_4, c_11]; rfl), hr9] at he
      refine zj_iload_n (pc := 16) C dX7_errorOfAlley_16 rfl ?_
      refine zj_iconst (pc := 17) (v := nI 0) C dX7_errorOfAlley_17 (by decide) ?_
      refine zj_bipush (pc := 18) (v := nI 20) C dX7_errorOfAlley_18 (by decide) ?_
      refine zj_callSF (pc := 20) C kv_X7_43 (m_X7_in) dX7_errorOfAlley_20 rfl rfl rfl rfl rfl rfl ?_
      refine zj_ifb_ne (pc := 23) 29 C dX7_errorOfAlley_23 (by decide) (fun c_23 => ?_) (fun c_23 => ?_)
      · have hnor : ¬ (lq < 0 ∨ 20 < lq) := by
          intro h; have h2 := c_23; unfold inB at h2; simp at h2
          rcases h with h | h
          · exact absurd h (Int32.not_lt.mpr h2.1)
          · exact absurd h (Int32.not_lt.mpr h2.2)
        rw [if_neg hnor] at he
        refine zj_aload_n (pc := 29) C dX7_errorOfAlley_29 rfl ?_
        refine gf_X7_0 (pc := 30) C dX7_errorOfAlley_30 0 rfl ?_
        refine zj_sipush (pc := 33) (v := nI 140) C dX7_errorOfAlley_33 (by decide) ?_
        refine zq_iald (pc := 36) C dX7_errorOfAlley_36 1 rfl (by omega) (by decide) ?_
        refine zj_bipush (pc := 37) (v := nI 12) C dX7_errorOfAlley_37 (by decide) ?_
        refine zq_icmp_ne (pc := 39) 47 C dX7_errorOfAlley_39 (by decide) (by omega) (by omega) (fun c_39 => ?_) (fun c_39 => ?_)
        · refine zj_iconst (pc := 47) (v := nI 0) C dX7_errorOfAlley_47 (by decide) ?_
          exact zj_iretF C hr hlocks dX7_errorOfAlley_48 (by rw [he, if_neg (fun h => c_39 (hae.symm.trans h))]; rfl) rfl
        · refine zj_bipush (pc := 42) (v := (-3)) C dX7_errorOfAlley_42 (by decide) ?_
          refine zj_goto (pc := 44) (tgt := 48) C dX7_errorOfAlley_44 (by decide) ?_
          exact zj_iretF C hr hlocks dX7_errorOfAlley_48 (by rw [he, if_pos (hae.trans c_39)]) rfl
      · have hor : lq < 0 ∨ 20 < lq := by have h := c_23; unfold inB at h; simp at h; by_cases h1 : lq < 0; exact Or.inl h1; exact Or.inr (h (Int32.not_lt.mp h1))
        rw [if_pos hor] at he
        refine zj_bipush (pc := 26) (v := (-2)) C dX7_errorOfAlley_26 (by decide) ?_
        exact zj_iretF C hr hlocks dX7_errorOfAlley_28 he.symm rfl
    · refine zj_iconst (pc := 14) (v := (-1)) C dX7_errorOfAlley_14 (by decide) ?_
      exact zj_iretF C hr hlocks dX7_errorOfAlley_15 (by rw [he, if_neg (by simp [c_4, c_11])]) rfl
set_option maxRecDepth 100000 in
set_option maxHeartbeats 4000000 in
theorem m_X7_comes {l : Launch} {G : GG} {m : Nat → Nat} {g ga gh : Nat → Nat} {kn : Nat} {gk : Nat → Nat} {kp : Bool} {tx : Nat → Nat} {ln : Nat} {iz wy wa tt rr we : Nat → Nat} {sp : Nat} {wr : Bool} {er : Int32} {x y lq d : Nat} (hk : kL g ≤ 24) : zX l G yX7_comes cX7_comes 6 none 0 0 0 0 [.ref (m 0), .int (nI (x)), .int (nI (y)), .int (nI (lq)), .int (nI (d))] (mB G m g ga gh kn gk kp tx ln iz wy wa tt rr we sp wr er).flatten (zF none (mB G m (gAdd g x y lq d) ga gh kn gk kp tx ln iz wy wa tt rr we sp wr er).flatten) := by
  refine zj_startF RX7 (by decide +kernel) rfl rfl rfl (bs := (mB G m g ga gh kn gk kp tx ln iz wy wa tt rr we sp wr er)) rfl (lo := [some (.ref (m 0)), some (.int (nI (x))), some (.int (nI (y))), some (.int (nI (lq))), some (.int (nI (d))), none]) rfl ?_
  intro p0 e0 s0 m0 args0 below0 meth0 c0 A0 C hr hlocks
  have hke : kL g = g 14 := rfl
  refine zj_bipush (pc := 0) (v := nI 15) C dX7_comes_0 (by decide) ?_
  refine zj_iconst (pc := 2) (v := nI 5) C dX7_comes_2 (by decide) ?_
  refine zj_aload_n (pc := 3) C dX7_comes_3 rfl ?_
  refine gf_X7_0 (pc := 4) C dX7_comes_4 0 rfl ?_
  refine zj_bipush (pc := 7) (v := nI 14) C dX7_comes_7 (by decide) ?_
  refine zq_iald (pc := 9) C dX7_comes_9 1 rfl (by omega) (by decide) ?_
  refine zq_imul (pc := 10) C dX7_comes_10 ?_
  refine zq_iadd (pc := 11) C dX7_comes_11 ?_
  refine zj_istore (pc := 12) C dX7_comes_12 (Nat.le_of_ble_eq_true rfl) ?_
  refine zj_aload_n (pc := 14) C dX7_comes_14 rfl ?_
  refine gf_X7_0 (pc := 15) C dX7_comes_15 0 rfl ?_
  refine zj_iload (pc := 18) C dX7_comes_18 rfl ?_
  refine zj_iload_n (pc := 20) C dX7_comes_20 rfl ?_
  refine zq_iast (pc := 21) C dX7_comes_21 1 rfl (by omega) (by decide) ?_
  refine zj_blk (bs' := (mB G m (updN g (15 + (5 * (g 14))) x) ga gh kn gk kp tx ln iz wy wa tt rr we sp wr er)) rfl ?_
  refine zj_aload_n (pc := 22) C dX7_comes_22 rfl ?_
  refine gf_X7_0 (pc := 23) C dX7_comes_23 0 rfl ?_
  refine zj_iload (pc := 26) C dX7_comes_26 rfl ?_
  refine zj_iconst (pc := 28) (v := nI 1) C dX7_comes_28 (by decide) ?_
  refine zq_iadd (pc := 29) C dX7_comes_29 ?_
  refine zj_iload_n (pc := 30) C dX7_comes_30 rfl ?_
  refine zq_iast (pc := 31) C dX7_comes_31 1 rfl (by omega) (by decide) ?_
  refine zj_blk (bs' := (mB G m (updN (updN g (15 + (5 * (g 14))) x) (15 + (5 * (g 14)) + 1) y) ga gh kn gk kp tx ln iz wy wa tt rr we sp wr er)) rfl ?_
  refine zj_aload_n (pc := 32) C dX7_comes_32 rfl ?_
  refine gf_X7_0 (pc := 33) C dX7_comes_33 0 rfl ?_
  refine zj_iload (pc := 36) C dX7_comes_36 rfl ?_
  refine zj_iconst (pc := 38) (v := nI 2) C dX7_comes_38 (by decide) ?_
  refine zq_iadd (pc := 39) C dX7_comes_39 ?_
  refine zj_iload_n (pc := 40) C dX7_comes_40 rfl ?_
  refine zq_iast (pc := 41) C dX7_comes_41 1 rfl (by omega) (by decide) ?_
  refine zj_blk (bs' := (mB G m (updN (updN (updN g (15 + (5 * (g 14))) x) (15 + (5 * (g 14)) + 1) y) (15 + (5 * (g 14)) + 2) lq) ga gh kn gk kp tx ln iz wy wa tt rr we sp wr er)) rfl ?_
  refine zj_aload_n (pc := 42) C dX7_comes_42 rfl ?_
  refine gf_X7_0 (pc := 43) C dX7_comes_43 0 rfl ?_
  refine zj_iload (pc := 46) C dX7_comes_46 rfl ?_
  refine zj_iconst (pc := 48) (v := nI 3) C dX7_comes_48 (by decide) ?_
  refine zq_iadd (pc := 49) C dX7_comes_49 ?_
  refine zj_iload (pc := 50) C dX7_comes_50 rfl ?_
  refine zq_iast (pc := 52) C dX7_comes_52 1 rfl (by omega) (by decide) ?_
  refine zj_blk (bs' := (mB G m (updN (updN (updN (updN g (15 + (5 * (g 14))) x) (15 + (5 * (g 14)) + 1) y) (15 + (5 * (g 14)) + 2) lq) (15 + (5 * (g 14)) + 3) d) ga gh kn gk kp tx ln iz wy wa tt rr we sp wr er)) rfl ?_
  refine zj_aload_n (pc := 53) C dX7_comes_53 rfl ?_
  refine gf_X7_0 (pc := 54) C dX7_comes_54 0 rfl ?_
  refine zj_iload (pc := 57) C dX7_comes_57 rfl ?_
  refine zj_iconst (pc := 59) (v := nI 4) C dX7_comes_59 (by decide) ?_
  refine zq_iadd (pc := 60) C dX7_comes_60 ?_
  refine zj_iconst (pc := 61) (v := nI 0) C dX7_comes_61 (by decide) ?_
  refine zq_iast (pc := 62) C dX7_comes_62 1 rfl (by omega) (by decide) ?_
  refine zj_blk (bs' := (mB G m (updN (updN (updN (updN (updN g (15 + (5 * (g 14))) x) (15 + (5 * (g 14)) + 1) y) (15 + (5 * (g 14)) + 2) lq) (15 + (5 * (g 14)) + 3) d) (15 + (5 * (g 14)) + 4) 0) ga gh kn gk kp tx ln iz wy wa tt rr we sp wr er)) rfl ?_
  refine zj_aload_n (pc := 63) C dX7_comes_63 rfl ?_
  refine gf_X7_0 (pc := 64) C dX7_comes_64 0 rfl ?_
  refine zj_bipush (pc := 67) (v := nI 14) C dX7_comes_67 (by decide) ?_
  refine zj_dup2 (pc := 69) C dX7_comes_69 rfl rfl ?_
  refine zq_iald (pc := 70) C dX7_comes_70 1 rfl (by omega) (by decide) ?_
  refine zj_top (x' := nI (kL g)) (congrArg nI (by rw [uN_n (by omega), uN_n (by omega), uN_n (by omega), uN_n (by omega), uN_n (by omega)]; rfl)) ?_
  refine zj_iconst (pc := 71) (v := nI 1) C dX7_comes_71 (by decide) ?_
  refine zq_iadd (pc := 72) C dX7_comes_72 ?_
  refine zq_iast (pc := 73) C dX7_comes_73 1 rfl (by omega) (by decide) ?_
  refine zj_blk (bs' := (mB G m (updN (updN (updN (updN (updN (updN g (15 + (5 * (g 14))) x) (15 + (5 * (g 14)) + 1) y) (15 + (5 * (g 14)) + 2) lq) (15 + (5 * (g 14)) + 3) d) (15 + (5 * (g 14)) + 4) 0) 14 (kL g + 1)) ga gh kn gk kp tx ln iz wy wa tt rr we sp wr er)) rfl ?_
  exact zj_vretF C hr hlocks dX7_comes_74 rfl
set_option maxRecDepth 100000 in
set_option maxHeartbeats 4000000 in
theorem m_X7_opens {l : Launch} {G : GG} {m : Nat → Nat} {g ga gh : Nat → Nat} {kn : Nat} {gk : Nat → Nat} {kp : Bool} {tx : Nat → Nat} {ln : Nat} {iz wy wa tt rr we : Nat → Nat} {sp : Nat} {wr : Bool} {er : Int32} {x lq d : Nat} (hk : kA g ≤ 11) : zX l G yX7_opens cX7_opens 5 none 0 0 0 0 [.ref (m 0), .int (nI (x)), .int (nI (lq)), .int (nI (d))] (mB G m g ga gh kn gk kp tx ln iz wy wa tt rr we sp wr er).flatten (zF none (mB G m (gAddA g x lq d) ga gh kn gk kp tx ln iz wy wa tt rr we sp wr er).flatten) := by
  refine zj_startF RX7 (by decide +kernel) rfl rfl rfl (bs := (mB G m g ga gh kn gk kp tx ln iz wy wa tt rr we sp wr er)) rfl (lo := [some (.ref (m 0)), some (.int (nI (x))), some (.int (nI (lq))), some (.int (nI (d))), none]) rfl ?_
  intro p0 e0 s0 m0 args0 below0 meth0 c0 A0 C hr hlocks
  have hae : kA g = g 140 := rfl
  refine zj_sipush (pc := 0) (v := nI 141) C dX7_opens_0 (by decide) ?_
  refine zj_iconst (pc := 3) (v := nI 3) C dX7_opens_3 (by decide) ?_
  refine zj_aload_n (pc := 4) C dX7_opens_4 rfl ?_
  refine gf_X7_0 (pc := 5) C dX7_opens_5 0 rfl ?_
  refine zj_sipush (pc := 8) (v := nI 140) C dX7_opens_8 (by decide) ?_
  refine zq_iald (pc := 11) C dX7_opens_11 1 rfl (by omega) (by decide) ?_
  refine zq_imul (pc := 12) C dX7_opens_12 ?_
  refine zq_iadd (pc := 13) C dX7_opens_13 ?_
  refine zj_istore (pc := 14) C dX7_opens_14 (Nat.le_of_ble_eq_true rfl) ?_
  refine zj_aload_n (pc := 16) C dX7_opens_16 rfl ?_
  refine gf_X7_0 (pc := 17) C dX7_opens_17 0 rfl ?_
  refine zj_iload (pc := 20) C dX7_opens_20 rfl ?_
  refine zj_iload_n (pc := 22) C dX7_opens_22 rfl ?_
  refine zq_iast (pc := 23) C dX7_opens_23 1 rfl (by omega) (by decide) ?_
  refine zj_blk (bs' := (mB G m (updN g (141 + (3 * (g 140))) x) ga gh kn gk kp tx ln iz wy wa tt rr we sp wr er)) rfl ?_
  refine zj_aload_n (pc := 24) C dX7_opens_24 rfl ?_
  refine gf_X7_0 (pc := 25) C dX7_opens_25 0 rfl ?_
  refine zj_iload (pc := 28) C dX7_opens_28 rfl ?_
  refine zj_iconst (pc := 30) (v := nI 1) C dX7_opens_30 (by decide) ?_
  refine zq_iadd (pc := 31) C dX7_opens_31 ?_
  refine zj_iload_n (pc := 32) C dX7_opens_32 rfl ?_
  refine zq_iast (pc := 33) C dX7_opens_33 1 rfl (by omega) (by decide) ?_
  refine zj_blk (bs' := (mB G m (updN (updN g (141 + (3 * (g 140))) x) (141 + (3 * (g 140)) + 1) lq) ga gh kn gk kp tx ln iz wy wa tt rr we sp wr er)) rfl ?_
  refine zj_aload_n (pc := 34) C dX7_opens_34 rfl ?_
  refine gf_X7_0 (pc := 35) C dX7_opens_35 0 rfl ?_
  refine zj_iload (pc := 38) C dX7_opens_38 rfl ?_
  refine zj_iconst (pc := 40) (v := nI 2) C dX7_opens_40 (by decide) ?_
  refine zq_iadd (pc := 41) C dX7_opens_41 ?_
  refine zj_iload_n (pc := 42) C dX7_opens_42 rfl ?_
  refine zq_iast (pc := 43) C dX7_opens_43 1 rfl (by omega) (by decide) ?_
  refine zj_blk (bs' := (mB G m (updN (updN (updN g (141 + (3 * (g 140))) x) (141 + (3 * (g 140)) + 1) lq) (141 + (3 * (g 140)) + 2) d) ga gh kn gk kp tx ln iz wy wa tt rr we sp wr er)) rfl ?_
  refine zj_aload_n (pc := 44) C dX7_opens_44 rfl ?_
  refine gf_X7_0 (pc := 45) C dX7_opens_45 0 rfl ?_
  refine zj_sipush (pc := 48) (v := nI 140) C dX7_opens_48 (by decide) ?_
  refine zj_dup2 (pc := 51) C dX7_opens_51 rfl rfl ?_
  refine zq_iald (pc := 52) C dX7_opens_52 1 rfl (by omega) (by decide) ?_
  refine zj_top (x' := nI (kA g)) (congrArg nI (by rw [uN_n (by omega), uN_n (by omega), uN_n (by omega)]; rfl)) ?_
  refine zj_iconst (pc := 53) (v := nI 1) C dX7_opens_53 (by decide) ?_
  refine zq_iadd (pc := 54) C dX7_opens_54 ?_
  refine zq_iast (pc := 55) C dX7_opens_55 1 rfl (by omega) (by decide) ?_
  refine zj_blk (bs' := (mB G m (updN (updN (updN (updN g (141 + (3 * (g 140))) x) (141 + (3 * (g 140)) + 1) lq) (141 + (3 * (g 140)) + 2) d) 140 (kA g + 1)) ga gh kn gk kp tx ln iz wy wa tt rr we sp wr er)) rfl ?_
  exact zj_vretF C hr hlocks dX7_opens_56 rfl
set_option maxRecDepth 100000 in
set_option maxHeartbeats 4000000 in
theorem m_X7_lane {l : Launch} {G : GG} {m : Nat → Nat} {g ga gh : Nat → Nat} {kn : Nat} {gk : Nat → Nat} {kp : Bool} {tx : Nat → Nat} {ln : Nat} {iz wy wa tt rr we : Nat → Nat} {sp : Nat} {wr : Bool} {er : Int32} {x y lq d : Int32} (hv : Vg g) (hk : kn ≤ 4) : zX l G yX7_lane cX7_lane 6 (some .int) 3 66 0 0 [.ref (m 0), .int (x), .int (y), .int (lq), .int (d)] (mB G m g ga gh kn gk kp tx ln iz wy wa tt rr we sp wr er).flatten (zF (some (.int (aLn (kL g) x y lq d))) (mB G m (if okLn (kL g) x y lq d = true then gAdd g x.toNatClampNeg y.toNatClampNeg lq.toNatClampNeg d.toNatClampNeg else g) ga (if okLn (kL g) x y lq d = true then rcH gh g kn else gh) (if okLn (kL g) x y lq d = true then rcN kn else kn) gk kp tx ln iz wy wa tt rr we sp wr er).flatten) := by
  refine zj_startF RX7 (by decide +kernel) rfl rfl rfl (bs := (mB G m g ga gh kn gk kp tx ln iz wy wa tt rr we sp wr er)) rfl (lo := [some (.ref (m 0)), some (.int (x)), some (.int (y)), some (.int (lq)), some (.int (d)), none]) rfl ?_
  intro p0 e0 s0 m0 args0 below0 meth0 c0 A0 C hr hlocks
  have hvk := Vk_of hv
  have hk24 : kL g ≤ 24 := hv.1
  refine zj_aload_n (pc := 0) C dX7_lane_0 rfl ?_
  refine zj_iload_n (pc := 1) C dX7_lane_1 rfl ?_
  refine zj_iload_n (pc := 2) C dX7_lane_2 rfl ?_
  refine zj_iload_n (pc := 3) C dX7_lane_3 rfl ?_
  refine zj_iload (pc := 4) C dX7_lane_4 rfl ?_
  refine zq_callP (pc := 6) C kv_X7_131 (m_X7_errorOfLane hvk) dX7_lane_6 rfl rfl rfl rfl rfl rfl ⟨0, rfl⟩ rfl rfl ?_
  refine zj_istore (pc := 9) C dX7_lane_9 (Nat.le_of_ble_eq_true rfl) ?_
  refine zj_iload (pc := 11) C dX7_lane_11 rfl ?_
  refine zj_if_eq (pc := 13) 19 C dX7_lane_13 (by decide) (fun c_13 => ?_) (fun c_13 => ?_)
  · obtain ⟨hok, hav⟩ := okLn_t c_13
    obtain ⟨x0, y0, l0, d0, rfl, rfl, rfl, rfl, h1, h2, h3, h4, h5, h6, h7⟩ := okLn_n hok
    have ex : (nI x0).toNatClampNeg = x0 := nI_clamp (by omega)
    have ey : (nI y0).toNatClampNeg = y0 := nI_clamp (by omega)
    have el : (nI l0).toNatClampNeg = l0 := nI_clamp (by omega)
    have ed : (nI d0).toNatClampNeg = d0 := nI_clamp (by omega)
    refine zj_aload_n (pc := 19) C dX7_lane_19 rfl ?_
    refine zq_callFn (pc := 20) (bs' := (mB G m g ga (rcH gh g kn) (rcN kn) gk kp tx ln iz wy wa tt rr we sp wr er)) C kv_X7_134 (m_X7_record (by omega)) dX7_lane_20 rfl rfl rfl rfl rfl rfl ⟨0, rfl⟩ rfl rfl ?_
    refine zj_aload_n (pc := 23) C dX7_lane_23 rfl ?_
    refine zj_iload_n (pc := 24) C dX7_lane_24 rfl ?_
    refine zj_iload_n (pc := 25) C dX7_lane_25 rfl ?_
    refine zj_iload_n (pc := 26) C dX7_lane_26 rfl ?_
    refine zj_iload (pc := 27) C dX7_lane_27 rfl ?_
    refine zq_callFn (pc := 29) (bs' := (mB G m (gAdd g x0 y0 l0 d0) ga (rcH gh g kn) (rcN kn) gk kp tx ln iz wy wa tt rr we sp wr er)) C kv_X7_137 (m_X7_comes (by omega)) dX7_lane_29 rfl rfl rfl rfl rfl rfl ⟨0, rfl⟩ rfl rfl ?_
    refine zj_aload_n (pc := 32) C dX7_lane_32 rfl ?_
    refine gf_X7_0 (pc := 33) C dX7_lane_33 0 rfl ?_
    refine zj_bipush (pc := 36) (v := nI 14) C dX7_lane_36 (by decide) ?_
    refine zq_iald (pc := 38) C dX7_lane_38 1 rfl (by omega) (by decide) ?_
    refine zj_top (x' := nI (kL g + 1)) (congrArg nI add_k) ?_
    refine zj_iconst (pc := 39) (v := nI 1) C dX7_lane_39 (by decide) ?_
    refine zq_isub (pc := 40) C dX7_lane_40 (by omega) ?_
    exact zj_iretF C hr hlocks dX7_lane_41 (by rw [hav]; rfl) (by rw [hok, ex, ey, el, ed]; rfl)
  · obtain ⟨hok, hav⟩ := okLn_f c_13
    refine zj_iload (pc := 16) C dX7_lane_16 rfl ?_
    exact zj_iretF C hr hlocks dX7_lane_18 hav.symm (by rw [hok]; rfl)
set_option maxRecDepth 100000 in
set_option maxHeartbeats 4000000 in
theorem m_X7_alley {l : Launch} {G : GG} {m : Nat → Nat} {g ga gh : Nat → Nat} {kn : Nat} {gk : Nat → Nat} {kp : Bool} {tx : Nat → Nat} {ln : Nat} {iz wy wa tt rr we : Nat → Nat} {sp : Nat} {wr : Bool} {er : Int32} {x lq d : Int32} (hv : Vg g) (hk : kn ≤ 4) : zX l G yX7_alley cX7_alley 5 (some .int) 3 65 0 0 [.ref (m 0), .int (x), .int (lq), .int (d)] (mB G m g ga gh kn gk kp tx ln iz wy wa tt rr we sp wr er).flatten (zF (some (.int (aAl (kA g) x lq d))) (mB G m (if okAl (kA g) x lq d = true then gAddA g x.toNatClampNeg lq.toNatClampNeg d.toNatClampNeg else g) ga (if okAl (kA g) x lq d = true then rcH gh g kn else gh) (if okAl (kA g) x lq d = true then rcN kn else kn) gk kp tx ln iz wy wa tt rr we sp wr er).flatten) := by
  refine zj_startF RX7 (by decide +kernel) rfl rfl rfl (bs := (mB G m g ga gh kn gk kp tx ln iz wy wa tt rr we sp wr er)) rfl (lo := [some (.ref (m 0)), some (.int (x)), some (.int (lq)), some (.int (d)), none]) rfl ?_
  intro p0 e0 s0 m0 args0 below0 meth0 c0 A0 C hr hlocks
  have hvk := Vk_of hv
  have hk12 : kA g ≤ 12 := hv.2.1
  refine zj_aload_n (pc := 0) C dX7_alley_0 rfl ?_
  refine zj_iload_n (pc := 1) C dX7_alley_1 rfl ?_
  refine zj_iload_n (pc := 2) C dX7_alley_2 rfl ?_
  refine zj_iload_n (pc := 3) C dX7_alley_3 rfl ?_
  refine zq_callP (pc := 4) C kv_X7_147 (m_X7_errorOfAlley hvk) dX7_alley_4 rfl rfl rfl rfl rfl rfl ⟨0, rfl⟩ rfl rfl ?_
  refine zj_istore (pc := 7) C dX7_alley_7 (Nat.le_of_ble_eq_true rfl) ?_
  refine zj_iload (pc := 9) C dX7_alley_9 rfl ?_
  refine zj_if_eq (pc := 11) 17 C dX7_alley_11 (by decide) (fun c_11 => ?_) (fun c_11 => ?_)
  · obtain ⟨hok, hav⟩ := okAl_t c_11
    obtain ⟨x0, l0, d0, rfl, rfl, rfl, h1, h5, h6, h7⟩ := okAl_n hok
    have ex : (nI x0).toNatClampNeg = x0 := nI_clamp (by omega)
    have el : (nI l0).toNatClampNeg = l0 := nI_clamp (by omega)
    have ed : (nI d0).toNatClampNeg = d0 := nI_clamp (by omega)
    refine zj_aload_n (pc := 17) C dX7_alley_17 rfl ?_
    refine zq_callFn (pc := 18) (bs' := (mB G m g ga (rcH gh g kn) (rcN kn) gk kp tx ln iz wy wa tt rr we sp wr er)) C kv_X7_134 (m_X7_record (by omega)) dX7_alley_18 rfl rfl rfl rfl rfl rfl ⟨0, rfl⟩ rfl rfl ?_
    refine zj_aload_n (pc := 21) C dX7_alley_21 rfl ?_
    refine zj_iload_n (pc := 22) C dX7_alley_22 rfl ?_
    refine zj_iload_n (pc := 23) C dX7_alley_23 rfl ?_
    refine zj_iload_n (pc := 24) C dX7_alley_24 rfl ?_
    refine zq_callFn (pc := 25) (bs' := (mB G m (gAddA g x0 l0 d0) ga (rcH gh g kn) (rcN kn) gk kp tx ln iz wy wa tt rr we sp wr er)) C kv_X7_150 (m_X7_opens (by omega)) dX7_alley_25 rfl rfl rfl rfl rfl rfl ⟨0, rfl⟩ rfl rfl ?_
    refine zj_aload_n (pc := 28) C dX7_alley_28 rfl ?_
    refine gf_X7_0 (pc := 29) C dX7_alley_29 0 rfl ?_
    refine zj_sipush (pc := 32) (v := nI 140) C dX7_alley_32 (by decide) ?_
    refine zq_iald (pc := 35) C dX7_alley_35 1 rfl (by omega) (by decide) ?_
    refine zj_top (x' := nI (kA g + 1)) (congrArg nI addA_k) ?_
    refine zj_iconst (pc := 36) (v := nI 1) C dX7_alley_36 (by decide) ?_
    refine zq_isub (pc := 37) C dX7_alley_37 (by omega) ?_
    exact zj_iretF C hr hlocks dX7_alley_38 (by rw [hav]; rfl) (by rw [hok, ex, el, ed]; rfl)
  · obtain ⟨hok, hav⟩ := okAl_f c_11
    refine zj_iload (pc := 14) C dX7_alley_14 rfl ?_
    exact zj_iretF C hr hlocks dX7_alley_16 hav.symm (by rw [hok]; rfl)
