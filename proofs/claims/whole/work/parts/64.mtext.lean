/-! THE REFERENCE READS A TEXT -/
def nxt (t : Nat → Nat) (n : Nat) (s : Nat × Bool) (lo hi : Nat) : Bool := !s.2 && (decide (s.1 < n) && (decide (lo ≤ t s.1) && decide (t s.1 ≤ hi)))
theorem inB_n {a lo hi : Nat} (ha : a < 2 ^ 31) (hl : lo < 2 ^ 31) (hh : hi < 2 ^ 31) : inB (nI a) (nI lo) (nI hi) = (decide (lo ≤ a) && decide (a ≤ hi)) := by
  unfold inB
  have h1 : decide (nI a < nI lo) = !(decide (lo ≤ a)) := by rw [← decide_not]; exact decide_eq_decide.mpr ((nI_ltI ha hl).trans (by omega))
  have h2 : decide (nI hi < nI a) = !(decide (a ≤ hi)) := by rw [← decide_not]; exact decide_eq_decide.mpr ((nI_ltI hh ha).trans (by omega))
  rw [h1, h2, Bool.not_not, Bool.not_not]
theorem rdS_m {t : Nat → Nat} {n c sp : Nat} {wr : Bool} : (sp + if nxt t n (sp, wr) c c = true then 1 else 0) = (rdS t n c (sp, wr)).1 ∧ (wr || !(nxt t n (sp, wr) c c)) = (rdS t n c (sp, wr)).2 := by
  unfold rdS nxt
  by_cases h : wr = false ∧ sp < n ∧ t sp = c
  · rw [if_pos h]
    obtain ⟨rfl, h2, rfl⟩ := h
    simp [h2]
  · rw [if_neg h]
    have e : (!wr && (decide (sp < n) && (decide (c ≤ t sp) && decide (t sp ≤ c)))) = false := by
      rw [Bool.eq_false_iff]
      intro q
      simp only [Bool.and_eq_true, Bool.not_eq_true', decide_eq_true_eq] at q
      exact h ⟨q.1, q.2.1, by omega⟩
    show (sp + if (!wr && (decide (sp < n) && (decide (c ≤ t sp) && decide (t sp ≤ c)))) = true then 1 else 0) = sp ∧ (wr || !(!wr && (decide (sp < n) && (decide (c ≤ t sp) && decide (t sp ≤ c))))) = true
    rw [e]
    exact ⟨rfl, by simp⟩
def hiC (hi : Nat) : Nat := if hi < 9 then 48 + hi else 57
def wrN (t : Nat → Nat) (n lo hi : Nat) (s : Nat × Bool) : Bool := s.2 || !(nxt t n s (48 + lo) (hiC hi))
def RN (t : Nat → Nat) (n hi : Nat) (w : Bool) (v p : Nat) : Nat × Nat := if 0 < v ∧ nxt t n (p, w) 48 57 = true ∧ 10 * v + t p - 48 ≤ hi then (10 * v + t p - 48, p + 1) else (v, p)
theorem wrN_f {t : Nat → Nat} {n lo hi : Nat} {s : Nat × Bool} (hh : hi ≤ 20) (h : wrN t n lo hi s = false) : s.2 = false ∧ s.1 < n ∧ 48 + lo ≤ t s.1 ∧ t s.1 ≤ 57 ∧ t s.1 - 48 ≤ hi := by
  unfold wrN nxt hiC at h
  simp only [Bool.or_eq_false_iff, Bool.not_eq_false', Bool.and_eq_true, Bool.not_eq_true', decide_eq_true_eq] at h
  obtain ⟨h1, -, h2, h3, h4⟩ := h
  refine ⟨h1, h2, h3, ?_, ?_⟩ <;> split at h4 <;> omega
theorem rdN_m {t : Nat → Nat} {n lo hi : Nat} {s : Nat × Bool} (hlo : lo ≤ 1) (hh : hi ≤ 20) : rdN t n lo hi s = ((RN t n hi (wrN t n lo hi s) (if wrN t n lo hi s = true then 0 else t s.1 - 48) (s.1 + if wrN t n lo hi s = true then 0 else 1)).1, ((RN t n hi (wrN t n lo hi s) (if wrN t n lo hi s = true then 0 else t s.1 - 48) (s.1 + if wrN t n lo hi s = true then 0 else 1)).2, wrN t n lo hi s)) := by
  obtain ⟨p, w⟩ := s
  cases hw : wrN t n lo hi (p, w) with
  | true =>
    rw [if_pos rfl, if_pos rfl]
    have e : RN t n hi true 0 (p + 0) = (0, p) := if_neg (fun q => absurd q.1 (by decide))
    rw [e]
    unfold rdN
    by_cases h2 : w = true
    · rw [if_pos h2]
    · rw [if_neg h2]
      have h2 : w = false := by simpa using h2
      subst h2
      unfold wrN nxt hiC at hw
      simp only [Bool.false_or, Bool.not_false, Bool.true_and, Bool.not_eq_true', Bool.and_eq_false_iff, decide_eq_false_iff_not] at hw
      show (match dg t n p with | none => _ | some d => _) = _
      unfold dg
      by_cases h : p < n ∧ 48 ≤ t p ∧ t p ≤ 57
      · rw [if_pos h]
        show (if t p - 48 < lo ∨ hi < t p - 48 then _ else _) = _
        rw [if_pos]
        rcases hw with hw | hw | hw
        · omega
        · omega
        · split at hw <;> omega
      · rw [if_neg h]
  | false =>
    rw [if_neg (by decide), if_neg (by decide)]
    obtain ⟨h1, h2, h3, h4, h5⟩ := wrN_f hh hw
    have h1 : w = false := h1
    subst h1
    unfold rdN
    rw [if_neg (by simp)]
    have e : dg t n p = some (t p - 48) := if_pos ⟨h2, by show 48 ≤ t (p, false).1; omega, h4⟩
    show (match dg t n p with | none => _ | some d => _) = _
    rw [e]
    show (if t p - 48 < lo ∨ hi < t p - 48 then _ else _) = _
    have h3 : 48 + lo ≤ t p := h3
    have h5 : t p - 48 ≤ hi := h5
    rw [if_neg (by omega)]
    unfold RN nxt
    show (match dg t n (p + 1) with | none => _ | some e => _) = _
    unfold dg
    by_cases h : p + 1 < n ∧ 48 ≤ t (p + 1) ∧ t (p + 1) ≤ 57
    · rw [if_pos h]
      show (if 0 < t p - 48 ∧ (t p - 48) * 10 + (t (p + 1) - 48) ≤ hi then _ else _) = _
      by_cases h6 : 0 < t p - 48 ∧ (t p - 48) * 10 + (t (p + 1) - 48) ≤ hi
      · rw [if_pos h6, if_pos ⟨h6.1, by simp [h.1, h.2.1, h.2.2], by show 10 * (t p - 48) + t (p + 1) - 48 ≤ hi; omega⟩]
        show _ = (10 * (t p - 48) + t (p + 1) - 48, (p + 1 + 1, false))
        rw [show (t p - 48) * 10 + (t (p + 1) - 48) = 10 * (t p - 48) + t (p + 1) - 48 by omega]
      · rw [if_neg h6, if_neg]
        rintro ⟨q1, -, q2⟩
        have q2 : 10 * (t p - 48) + t (p + 1) - 48 ≤ hi := q2
        have q1 : 0 < t p - 48 := q1
        exact h6 ⟨q1, by omega⟩
    · rw [if_neg h, if_neg]
      rintro ⟨-, q, -⟩
      simp only [Bool.not_false, Bool.true_and, Bool.and_eq_true, decide_eq_true_eq] at q
      exact h ⟨q.1, q.2.1, q.2.2⟩
theorem RN_s {t : Nat → Nat} {n hi v p : Nat} {w : Bool} (hh : hi ≤ 20) (h1 : 0 < v) (h2 : nxt t n (p, w) 48 57 = true) (h3 : 10 * v + t p - 48 ≤ hi) (h4 : 48 ≤ t p) : RN t n hi w (10 * v + t p - 48) (p + 1) = RN t n hi w v p := by
  have e1 : RN t n hi w v p = (10 * v + t p - 48, p + 1) := if_pos ⟨h1, h2, h3⟩
  rw [e1]
  refine if_neg ?_
  rintro ⟨-, q, q2⟩
  unfold nxt at q
  simp only [Bool.and_eq_true, Bool.not_eq_true', decide_eq_true_eq] at q
  have q3 : 48 ≤ t (p + 1) := q.2.2.1
  omega
theorem nxt_t {t : Nat → Nat} {n lo hi : Nat} {s : Nat × Bool} (h : nxt t n s lo hi = true) : s.2 = false ∧ s.1 < n ∧ lo ≤ t s.1 ∧ t s.1 ≤ hi := by
  unfold nxt at h
  simpa only [Bool.and_eq_true, Bool.not_eq_true', decide_eq_true_eq] using h

set_option maxRecDepth 100000 in
set_option maxHeartbeats 4000000 in
theorem m_X7_isNext {l : Launch} {G : GG} {m : Nat → Nat} {g ga gh : Nat → Nat} {kn : Nat} {gk : Nat → Nat} {kp : Bool} {tx : Nat → Nat} {ln : Nat} {iz wy wa tt rr we : Nat → Nat} {sp : Nat} {wr : Bool} {er : Int32} {lo hi : Nat} (hn : ln ≤ 60) (htc : ∀ k, k < ln → tx k < 65536) (hlo : lo < 1000) (hhi : hi < 1000) (hsp : sp ≤ 100) : zX l G yX7_isNext cX7_isNext 3 (some .boolean) 1 22 0 0 [.ref (m 0), .int (nI (lo)), .int (nI (hi))] (mB G m g ga gh kn gk kp tx ln iz wy wa tt rr we sp wr er).flatten (zF (some (.int (bI (nxt tx ln (sp, wr) lo hi)))) (mB G m g ga gh kn gk kp tx ln iz wy wa tt rr we sp wr er).flatten) := by
  refine zj_startF RX7 (by decide +kernel) rfl rfl rfl (bs := (mB G m g ga gh kn gk kp tx ln iz wy wa tt rr we sp wr er)) rfl (lo := [some (.ref (m 0)), some (.int (nI (lo))), some (.int (nI (hi)))]) rfl ?_
  intro p0 e0 s0 m0 args0 below0 meth0 c0 A0 C hr hlocks
  refine zq_mrg 40 [] (bI (nxt tx ln (sp, wr) lo hi)) ?_ (fun kk => ?_)
  · exact zj_zretF C hr hlocks dX7_isNext_40 rfl rfl
  · refine zj_aload_n (pc := 0) C dX7_isNext_0 rfl ?_
    refine gf_X7_15 (pc := 1) C dX7_isNext_1 0 rfl ?_
    refine zj_ifb_ne (pc := 4) 39 C dX7_isNext_4 (by decide) (fun c_4 => ?_) (fun c_4 => ?_)
    · refine zj_iconst (pc := 39) (v := nI 0) C dX7_isNext_39 (by decide) ?_
      exact zj_top (x' := bI (nxt tx ln (sp, wr) lo hi)) (zq_f (by unfold nxt; rw [c_4]; rfl)) kk
    · refine zj_aload_n (pc := 7) C dX7_isNext_7 rfl ?_
      refine gf_X7_14 (pc := 8) C dX7_isNext_8 0 rfl ?_
      refine zj_aload_n (pc := 11) C dX7_isNext_11 rfl ?_
      refine gf_X7_7 (pc := 12) C dX7_isNext_12 0 rfl ?_
      refine zq_icmp_ge (pc := 15) 39 C dX7_isNext_15 (by decide) (by omega) (by omega) (fun c_15 => ?_) (fun c_15 => ?_)
      · refine zj_iconst (pc := 39) (v := nI 0) C dX7_isNext_39 (by decide) ?_
        exact zj_top (x' := bI (nxt tx ln (sp, wr) lo hi)) (zq_f (by unfold nxt; rw [c_4, decide_eq_false (by omega)]; rfl)) kk
      · refine zj_aload_n (pc := 18) C dX7_isNext_18 rfl ?_
        refine gf_X7_6 (pc := 19) C dX7_isNext_19 0 rfl ?_
        refine zj_aload_n (pc := 22) C dX7_isNext_22 rfl ?_
        refine gf_X7_14 (pc := 23) C dX7_isNext_23 0 rfl ?_
        refine zq_iald (pc := 26) C dX7_isNext_26 5 rfl (by omega) (by decide) ?_
        have hc := htc sp c_15
        refine zj_iload_n (pc := 27) C dX7_isNext_27 rfl ?_
        refine zj_iload_n (pc := 28) C dX7_isNext_28 rfl ?_
        refine zj_callSF (pc := 29) C kv_X7_43 (m_X7_in) dX7_isNext_29 rfl rfl rfl rfl rfl rfl ?_
        refine zj_ifb_eq (pc := 32) 39 C dX7_isNext_32 (by decide) (fun c_32 => ?_) (fun c_32 => ?_)
        · refine zj_iconst (pc := 39) (v := nI 0) C dX7_isNext_39 (by decide) ?_
          exact zj_top (x' := bI (nxt tx ln (sp, wr) lo hi)) (zq_f (by rw [inB_n (by omega) (by omega) (by omega)] at c_32; unfold nxt; rw [c_4, decide_eq_true c_15]; exact c_32)) kk
        · refine zj_iconst (pc := 35) (v := nI 1) C dX7_isNext_35 (by decide) ?_
          refine zj_goto (pc := 36) (tgt := 40) C dX7_isNext_36 (by decide) ?_
          exact zj_top (x' := bI (nxt tx ln (sp, wr) lo hi)) (zq_t (by rw [inB_n (by omega) (by omega) (by omega)] at c_32; unfold nxt; rw [c_4, decide_eq_true c_15]; exact c_32)) kk
set_option maxRecDepth 100000 in
set_option maxHeartbeats 4000000 in
theorem m_X7_needs {l : Launch} {G : GG} {m : Nat → Nat} {g ga gh : Nat → Nat} {kn : Nat} {gk : Nat → Nat} {kp : Bool} {tx : Nat → Nat} {ln : Nat} {iz wy wa tt rr we : Nat → Nat} {sp : Nat} {wr : Bool} {er : Int32} {c : Nat} (hn : ln ≤ 60) (htc : ∀ k, k < ln → tx k < 65536) (hc9 : c < 1000) (hsp : sp ≤ 90) : zX l G yX7_needs cX7_needs 3 none 2 44 0 0 [.ref (m 0), .int (nI (c))] (mB G m g ga gh kn gk kp tx ln iz wy wa tt rr we sp wr er).flatten (zF none (mB G m g ga gh kn gk kp tx ln iz wy wa tt rr we ((rdS tx ln c (sp, wr)).1) ((rdS tx ln c (sp, wr)).2) er).flatten) := by
  refine zj_startF RX7 (by decide +kernel) rfl rfl rfl (bs := (mB G m g ga gh kn gk kp tx ln iz wy wa tt rr we sp wr er)) rfl (lo := [some (.ref (m 0)), some (.int (nI (c))), none]) rfl ?_
  intro p0 e0 s0 m0 args0 below0 meth0 c0 A0 C hr hlocks
  refine zj_aload_n (pc := 0) C dX7_needs_0 rfl ?_
  refine zj_iload_n (pc := 1) C dX7_needs_1 rfl ?_
  refine zj_iload_n (pc := 2) C dX7_needs_2 rfl ?_
  refine zq_callP (pc := 3) C kv_X7_167 (m_X7_isNext hn htc (by omega) (by omega) (by omega)) dX7_needs_3 rfl rfl rfl rfl rfl rfl ⟨0, rfl⟩ rfl rfl ?_
  refine zj_istore_n (pc := 6) C dX7_needs_6 (Nat.le_of_ble_eq_true rfl) ?_
  refine zj_aload_n (pc := 7) C dX7_needs_7 rfl ?_
  refine zj_dup (pc := 8) C dX7_needs_8 rfl ?_
  refine gf_X7_14 (pc := 9) C dX7_needs_9 0 rfl ?_
  refine zq_mrg 21 [.int (nI (sp)), .ref (m 0)] (nI (if nxt tx ln (sp, wr) c c = true then 1 else 0)) ?_ (fun kk => ?_)
  · refine zq_iadd (pc := 21) C dX7_needs_21 ?_
    refine pf_X7_14 (pc := 22) C dX7_needs_22 0 rfl ?_
    refine zj_blk (bs' := (mB G m g ga gh kn gk kp tx ln iz wy wa tt rr we (sp + (if nxt tx ln (sp, wr) c c = true then 1 else 0)) wr er)) rfl ?_
    refine zj_aload_n (pc := 25) C dX7_needs_25 rfl ?_
    refine zq_mrg 42 [.ref (m 0)] (bI (wr || !(nxt tx ln (sp, wr) c c))) ?_ (fun kk => ?_)
    · refine pf_X7_15 (pc := 42) (x := wr || !(nxt tx ln (sp, wr) c c)) C dX7_needs_42 0 rfl ?_
      refine zj_blk (bs' := (mB G m g ga gh kn gk kp tx ln iz wy wa tt rr we (sp + (if nxt tx ln (sp, wr) c c = true then 1 else 0)) (wr || !(nxt tx ln (sp, wr) c c)) er)) rfl ?_
      exact zj_vretF C hr hlocks dX7_needs_45 (by rw [rdS_m.1, rdS_m.2])
    · refine zj_aload_n (pc := 26) C dX7_needs_26 rfl ?_
      refine gf_X7_15 (pc := 27) C dX7_needs_27 0 rfl ?_
      refine zj_ifb_ne (pc := 30) 37 C dX7_needs_30 (by decide) (fun c_30 => ?_) (fun c_30 => ?_)
      · refine zj_iconst (pc := 37) (v := nI 1) C dX7_needs_37 (by decide) ?_
        refine zj_goto (pc := 38) (tgt := 42) C dX7_needs_38 (by decide) ?_
        exact zj_top (x' := bI (wr || !(nxt tx ln (sp, wr) c c))) (zq_t (by rw [c_30]; rfl)) kk
      · refine zj_iload_n (pc := 33) C dX7_needs_33 rfl ?_
        refine zj_ifb_ne (pc := 34) 41 C dX7_needs_34 (by decide) (fun c_34 => ?_) (fun c_34 => ?_)
        · refine zj_iconst (pc := 41) (v := nI 0) C dX7_needs_41 (by decide) ?_
          exact zj_top (x' := bI (wr || !(nxt tx ln (sp, wr) c c))) (zq_f (by rw [c_34, c_30]; rfl)) kk
        · refine zj_iconst (pc := 37) (v := nI 1) C dX7_needs_37 (by decide) ?_
          refine zj_goto (pc := 38) (tgt := 42) C dX7_needs_38 (by decide) ?_
          exact zj_top (x' := bI (wr || !(nxt tx ln (sp, wr) c c))) (zq_t (by rw [c_34, c_30]; rfl)) kk
  · refine zj_iload_n (pc := 12) C dX7_needs_12 rfl ?_
    refine zj_ifb_eq (pc := 13) 20 C dX7_needs_13 (by decide) (fun c_13 => ?_) (fun c_13 => ?_)
    · refine zj_iconst (pc := 20) (v := nI 0) C dX7_needs_20 (by decide) ?_
      exact zj_top (x' := nI (if nxt tx ln (sp, wr) c c = true then 1 else 0)) (congrArg nI (if_neg (by rw [c_13]; decide)).symm) kk
    · refine zj_iconst (pc := 16) (v := nI 1) C dX7_needs_16 (by decide) ?_
      refine zj_goto (pc := 17) (tgt := 21) C dX7_needs_17 (by decide) ?_
      exact zj_top (x' := nI (if nxt tx ln (sp, wr) c c = true then 1 else 0)) (congrArg nI (if_pos c_13).symm) kk
set_option maxRecDepth 100000 in
set_option maxHeartbeats 4000000 in
theorem m_X7_number {l : Launch} {G : GG} {m : Nat → Nat} {g ga gh : Nat → Nat} {kn : Nat} {gk : Nat → Nat} {kp : Bool} {tx : Nat → Nat} {ln : Nat} {iz wy wa tt rr we : Nat → Nat} {sp : Nat} {wr : Bool} {er : Int32} {lo hi : Nat} (hn : ln ≤ 60) (htc : ∀ k, k < ln → tx k < 65536) (hlo : lo ≤ 1) (hhi : hi ≤ 20) (hsp : sp ≤ 80) : zX l G yX7_number cX7_number 4 (some .int) 2 44 0 0 [.ref (m 0), .int (nI (lo)), .int (nI (hi))] (mB G m g ga gh kn gk kp tx ln iz wy wa tt rr we sp wr er).flatten (zF (some (.int (nI ((rdN tx ln lo hi (sp, wr)).1)))) (mB G m g ga gh kn gk kp tx ln iz wy wa tt rr we ((rdN tx ln lo hi (sp, wr)).2.1) ((rdN tx ln lo hi (sp, wr)).2.2) er).flatten) := by
  refine zj_startF RX7 (by decide +kernel) rfl rfl rfl (bs := (mB G m g ga gh kn gk kp tx ln iz wy wa tt rr we sp wr er)) rfl (lo := [some (.ref (m 0)), some (.int (nI (lo))), some (.int (nI (hi))), none]) rfl ?_
  intro p0 e0 s0 m0 args0 below0 meth0 c0 A0 C hr hlocks
  have hr0 := rdN_m (t := tx) (n := ln) (s := (sp, wr)) hlo hhi
  have hC : hiC hi ≤ 57 := by unfold hiC; split <;> omega
  refine zj_aload_n (pc := 0) C dX7_number_0 rfl ?_
  refine zq_mrg 39 [.ref (m 0)] (bI (wrN tx ln lo hi (sp, wr))) ?_ (fun kk => ?_)
  · refine pf_X7_15 (pc := 39) (x := wrN tx ln lo hi (sp, wr)) C dX7_number_39 0 rfl ?_
    refine zj_blk (bs' := (mB G m g ga gh kn gk kp tx ln iz wy wa tt rr we sp (wrN tx ln lo hi (sp, wr)) er)) rfl ?_
    refine zq_mrg 65 [] (nI (if wrN tx ln lo hi (sp, wr) = true then 0 else tx sp - 48)) ?_ (fun kk => ?_)
    · refine zj_istore_n (pc := 65) C dX7_number_65 (Nat.le_of_ble_eq_true rfl) ?_
      refine zj_aload_n (pc := 66) C dX7_number_66 rfl ?_
      refine zj_dup (pc := 67) C dX7_number_67 rfl ?_
      refine gf_X7_14 (pc := 68) C dX7_number_68 0 rfl ?_
      refine zq_mrg 83 [.int (nI (sp)), .ref (m 0)] (nI (if wrN tx ln lo hi (sp, wr) = true then 0 else 1)) ?_ (fun kk => ?_)
      · refine zq_iadd (pc := 83) C dX7_number_83 ?_
        refine pf_X7_14 (pc := 84) C dX7_number_84 0 rfl ?_
        refine zj_blk (bs' := (mB G m g ga gh kn gk kp tx ln iz wy wa tt rr we (sp + (if wrN tx ln lo hi (sp, wr) = true then 0 else 1)) (wrN tx ln lo hi (sp, wr)) er)) rfl ?_
        refine zj_keep [true, true, true, true] ?_
        refine zq_loop2 (fun (v : Nat) (p : Nat) => RN tx ln hi (wrN tx ln lo hi (sp, wr)) v p = RN tx ln hi (wrN tx ln lo hi (sp, wr)) (if wrN tx ln lo hi (sp, wr) = true then 0 else tx sp - 48) (sp + if wrN tx ln lo hi (sp, wr) = true then 0 else 1) ∧ v ≤ 20 ∧ p ≤ 90 ∧ (v ≤ 9 ∨ p ≤ 61)) (fun (v : Nat) (p : Nat) => 100 - v) (fun (v : Nat) (p : Nat) => (mB G m g ga gh kn gk kp tx ln iz wy wa tt rr we p (wrN tx ln lo hi (sp, wr)) er)) (fun (v : Nat) (p : Nat) => [some (.ref (m 0)), some (.int (nI (lo))), some (.int (nI (hi))), some (.int (nI (v)))]) ?_ (if wrN tx ln lo hi (sp, wr) = true then 0 else tx sp - 48) (sp + if wrN tx ln lo hi (sp, wr) = true then 0 else 1) ⟨rfl, by split; exact Nat.zero_le _; rename_i q; obtain ⟨f1, f2, f3, f4, f5⟩ := wrN_f hhi (Bool.eq_false_iff.mpr q); have f4 : tx sp ≤ 57 := f4; omega, by split <;> omega, Or.inl (by split; exact Nat.zero_le _; rename_i q; obtain ⟨f1, f2, f3, f4, f5⟩ := wrN_f hhi (Bool.eq_false_iff.mpr q); have f4 : tx sp ≤ 57 := f4; omega)⟩
        intro v p hI ih_87
        obtain ⟨h1, h2, h3, h4⟩ := hI
        refine zj_iload_n (pc := 87) C dX7_number_87 rfl ?_
        refine zq_if_le (pc := 88) 154 C dX7_number_88 (by decide) (by omega) (fun c_88 => ?_) (fun c_88 => ?_)
        · refine zj_iload_n (pc := 154) C dX7_number_154 rfl ?_
          have hf : RN tx ln hi (wrN tx ln lo hi (sp, wr)) v p = (v, p) := if_neg (fun q => absurd q.1 (by omega))
          rw [← h1, hf] at hr0
          exact zj_iretF C hr hlocks dX7_number_155 (by rw [hr0]) (by rw [hr0])
        · refine zj_aload_n (pc := 91) C dX7_number_91 rfl ?_
          refine zj_bipush (pc := 92) (v := nI 48) C dX7_number_92 (by decide) ?_
          refine zj_bipush (pc := 94) (v := nI 57) C dX7_number_94 (by decide) ?_
          refine zq_callP (pc := 96) C kv_X7_167 (m_X7_isNext hn htc (by omega) (by omega) (by omega)) dX7_number_96 rfl rfl rfl rfl rfl rfl ⟨0, rfl⟩ rfl rfl ?_
          refine zj_ifb_eq (pc := 99) 154 C dX7_number_99 (by decide) (fun c_99 => ?_) (fun c_99 => ?_)
          · refine zj_iload_n (pc := 154) C dX7_number_154 rfl ?_
            have hf : RN tx ln hi (wrN tx ln lo hi (sp, wr)) v p = (v, p) := if_neg (fun q => by have q2 := q.2.1; rw [c_99] at q2; cases q2)
            rw [← h1, hf] at hr0
            exact zj_iretF C hr hlocks dX7_number_155 (by rw [hr0]) (by rw [hr0])
          · obtain ⟨g1, g2, g3, g4⟩ := nxt_t c_99
            have g2 : p < ln := g2
            have g3 : 48 ≤ tx p := g3
            have g4 : tx p ≤ 57 := g4
            refine zj_bipush (pc := 102) (v := nI 10) C dX7_number_102 (by decide) ?_
            refine zj_iload_n (pc := 104) C dX7_number_104 rfl ?_
            refine zq_imul (pc := 105) C dX7_number_105 ?_
            refine zj_aload_n (pc := 106) C dX7_number_106 rfl ?_
            refine gf_X7_6 (pc := 107) C dX7_number_107 0 rfl ?_
            refine zj_aload_n (pc := 110) C dX7_number_110 rfl ?_
            refine gf_X7_14 (pc := 111) C dX7_number_111 0 rfl ?_
            refine zq_iald (pc := 114) C dX7_number_114 5 rfl (by omega) (by decide) ?_
            refine zq_iadd (pc := 115) C dX7_number_115 ?_
            refine zj_bipush (pc := 116) (v := nI 48) C dX7_number_116 (by decide) ?_
            refine zq_isub (pc := 118) C dX7_number_118 (by omega) ?_
            refine zj_iload_n (pc := 119) C dX7_number_119 rfl ?_
            refine zq_icmp_gt (pc := 120) 154 C dX7_number_120 (by decide) (by omega) (by omega) (fun c_120 => ?_) (fun c_120 => ?_)
            · refine zj_iload_n (pc := 154) C dX7_number_154 rfl ?_
              have hf : RN tx ln hi (wrN tx ln lo hi (sp, wr)) v p = (v, p) := if_neg (fun q => absurd q.2.2 (by omega))
              rw [← h1, hf] at hr0
              exact zj_iretF C hr hlocks dX7_number_155 (by rw [hr0]) (by rw [hr0])
            · refine zj_bipush (pc := 123) (v := nI 10) C dX7_number_123 (by decide) ?_
              refine zj_iload_n (pc := 125) C dX7_number_125 rfl ?_
              refine zq_imul (pc := 126) C dX7_number_126 ?_
              refine zj_aload_n (pc := 127) C dX7_number_127 rfl ?_
              refine gf_X7_6 (pc := 128) C dX7_number_128 0 rfl ?_
              refine zj_aload_n (pc := 131) C dX7_number_131 rfl ?_
              refine gf_X7_14 (pc := 132) C dX7_number_132 0 rfl ?_
              refine zq_iald (pc := 135) C dX7_number_135 5 rfl (by omega) (by decide) ?_
              refine zq_iadd (pc := 136) C dX7_number_136 ?_
              refine zj_bipush (pc := 137) (v := nI 48) C dX7_number_137 (by decide) ?_
              refine zq_isub (pc := 139) C dX7_number_139 (by omega) ?_
              refine zj_istore_n (pc := 140) C dX7_number_140 (Nat.le_of_ble_eq_true rfl) ?_
              refine zj_aload_n (pc := 141) C dX7_number_141 rfl ?_
              refine zj_dup (pc := 142) C dX7_number_142 rfl ?_
              refine gf_X7_14 (pc := 143) C dX7_number_143 0 rfl ?_
              refine zj_iconst (pc := 146) (v := nI 1) C dX7_number_146 (by decide) ?_
              refine zq_iadd (pc := 147) C dX7_number_147 ?_
              refine pf_X7_14 (pc := 148) C dX7_number_148 0 rfl ?_
              refine zj_blk (bs' := (mB G m g ga gh kn gk kp tx ln iz wy wa tt rr we (p + 1) (wrN tx ln lo hi (sp, wr)) er)) rfl ?_
              refine zj_goto (pc := 151) (tgt := 87) C dX7_number_151 (by decide) ?_
              refine zj_keep [true, true, true, true] ?_
              exact ih_87 (10 * v + tx p - 48) (p + 1) ⟨(RN_s hhi c_88 c_99 c_120 g3).trans h1, by omega, by omega, by omega⟩ (by show 100 - (10 * v + tx p - 48) < 100 - v; omega)
      · refine zj_aload_n (pc := 71) C dX7_number_71 rfl ?_
        refine gf_X7_15 (pc := 72) C dX7_number_72 0 rfl ?_
        refine zj_ifb_eq (pc := 75) 82 C dX7_number_75 (by decide) (fun c_75 => ?_) (fun c_75 => ?_)
        · refine zj_iconst (pc := 82) (v := nI 1) C dX7_number_82 (by decide) ?_
          exact zj_top (x' := nI (if wrN tx ln lo hi (sp, wr) = true then 0 else 1)) (congrArg nI (if_neg (by rw [c_75]; decide)).symm) kk
        · refine zj_iconst (pc := 78) (v := nI 0) C dX7_number_78 (by decide) ?_
          refine zj_goto (pc := 79) (tgt := 83) C dX7_number_79 (by decide) ?_
          exact zj_top (x' := nI (if wrN tx ln lo hi (sp, wr) = true then 0 else 1)) (congrArg nI (if_pos c_75).symm) kk
    · refine zj_aload_n (pc := 42) C dX7_number_42 rfl ?_
      refine gf_X7_15 (pc := 43) C dX7_number_43 0 rfl ?_
      refine zj_ifb_eq (pc := 46) 53 C dX7_number_46 (by decide) (fun c_46 => ?_) (fun c_46 => ?_)
      · obtain ⟨f1, f2, f3, f4, f5⟩ := wrN_f hhi c_46
        have f2 : sp < ln := f2
        have f3 : 48 + lo ≤ tx sp := f3
        have f4 : tx sp ≤ 57 := f4
        refine zj_aload_n (pc := 53) C dX7_number_53 rfl ?_
        refine gf_X7_6 (pc := 54) C dX7_number_54 0 rfl ?_
        refine zj_aload_n (pc := 57) C dX7_number_57 rfl ?_
        refine gf_X7_14 (pc := 58) C dX7_number_58 0 rfl ?_
        refine zq_iald (pc := 61) C dX7_number_61 5 rfl (by omega) (by decide) ?_
        refine zj_bipush (pc := 62) (v := nI 48) C dX7_number_62 (by decide) ?_
        refine zq_isub (pc := 64) C dX7_number_64 (by omega) ?_
        exact zj_top (x' := nI (if wrN tx ln lo hi (sp, wr) = true then 0 else tx sp - 48)) (congrArg nI (if_neg (by rw [c_46]; decide)).symm) kk
      · refine zj_iconst (pc := 49) (v := nI 0) C dX7_number_49 (by decide) ?_
        refine zj_goto (pc := 50) (tgt := 65) C dX7_number_50 (by decide) ?_
        exact zj_top (x' := nI (if wrN tx ln lo hi (sp, wr) = true then 0 else tx sp - 48)) (congrArg nI (if_pos c_46).symm) kk
  · refine zj_aload_n (pc := 1) C dX7_number_1 rfl ?_
    refine gf_X7_15 (pc := 2) C dX7_number_2 0 rfl ?_
    refine zj_ifb_ne (pc := 5) 34 C dX7_number_5 (by decide) (fun c_5 => ?_) (fun c_5 => ?_)
    · refine zj_iconst (pc := 34) (v := nI 1) C dX7_number_34 (by decide) ?_
      refine zj_goto (pc := 35) (tgt := 39) C dX7_number_35 (by decide) ?_
      exact zj_top (x' := bI (wrN tx ln lo hi (sp, wr))) (zq_t (by unfold wrN; rw [show (sp, wr).2 = true from c_5]; rfl)) kk
    · refine zj_aload_n (pc := 8) C dX7_number_8 rfl ?_
      refine zj_bipush (pc := 9) (v := nI 48) C dX7_number_9 (by decide) ?_
      refine zj_iload_n (pc := 11) C dX7_number_11 rfl ?_
      refine zq_iadd (pc := 12) C dX7_number_12 ?_
      refine zq_mrg 28 [.int (nI (48 + lo)), .ref (m 0), .ref (m 0)] (nI (hiC hi)) ?_ (fun kk => ?_)
      · refine zq_callP (pc := 28) C kv_X7_167 (m_X7_isNext hn htc (by omega) (by omega) (by omega)) dX7_number_28 rfl rfl rfl rfl rfl rfl ⟨0, rfl⟩ rfl rfl ?_
        refine zj_ifb_ne (pc := 31) 38 C dX7_number_31 (by decide) (fun c_31 => ?_) (fun c_31 => ?_)
        · refine zj_iconst (pc := 38) (v := nI 0) C dX7_number_38 (by decide) ?_
          exact zj_top (x' := bI (wrN tx ln lo hi (sp, wr))) (zq_f (by unfold wrN; rw [show (sp, wr).2 = false from c_5, c_31]; rfl)) kk
        · refine zj_iconst (pc := 34) (v := nI 1) C dX7_number_34 (by decide) ?_
          refine zj_goto (pc := 35) (tgt := 39) C dX7_number_35 (by decide) ?_
          exact zj_top (x' := bI (wrN tx ln lo hi (sp, wr))) (zq_t (by unfold wrN; rw [show (sp, wr).2 = false from c_5, c_31]; rfl)) kk
      · refine zj_iload_n (pc := 13) C dX7_number_13 rfl ?_
        refine zj_bipush (pc := 14) (v := nI 9) C dX7_number_14 (by decide) ?_
        refine zq_icmp_ge (pc := 16) 26 C dX7_number_16 (by decide) (by omega) (by omega) (fun c_16 => ?_) (fun c_16 => ?_)
        · refine zj_bipush (pc := 26) (v := nI 57) C dX7_number_26 (by decide) ?_
          exact zj_top (x' := nI (hiC hi)) (congrArg nI (if_neg (by omega) : hiC hi = _).symm) kk
        · refine zj_bipush (pc := 19) (v := nI 48) C dX7_number_19 (by decide) ?_
          refine zj_iload_n (pc := 21) C dX7_number_21 rfl ?_
          refine zq_iadd (pc := 22) C dX7_number_22 ?_
          refine zj_goto (pc := 23) (tgt := 28) C dX7_number_23 (by decide) ?_
          exact zj_top (x' := nI (hiC hi)) (congrArg nI (if_pos c_16 : hiC hi = _).symm) kk
