/-! DISTRICTTOTALS: its world -/
abbrev TC : Type := (Nat → Nat → Nat → Nat) × (Nat → Nat) × (Nat → Nat) × (Nat → Nat) × (Nat → Nat) × Nat
def totT (G : GG) (a : Nat → Nat) (W : TC) : va_W := tot G a W.1 W.2.1 W.2.2.1 W.2.2.2.1 W.2.2.2.2.1 W.2.2.2.2.2
def clsB (G : GG) (ad : Nat → Nat → Nat) (q : Nat → Nat → Nat) (P Pd Ps : PC) (kp : Bool) (HP : Nat → PC) (hn : Nat) (t : Nat → Nat) (tn : Nat) (T : T7) (W1 W2 : TC) (st : Bool) : List va_W := [[(ad 0 0, .inr (6, [.ref (ad 1 0), .ref (ad 2 0), .ref (ad 3 0), .int (bI kp), .ref (ad 4 0), .ref (ad 5 0), .ref (ad 6 0), .ref (ad 7 0), .int (bI st)]))], plan G (ad 1) P, plan G (ad 2) Pd, plan G (ad 3) Ps, hist G (ad 4) q HP hn, text G (ad 5 0) (ad 5 1) t tn T, totT G (ad 6) W1, totT G (ad 7) W2]
def cls (G : GG) (ad : Nat → Nat → Nat) (q : Nat → Nat → Nat) (P Pd Ps : PC) (kp : Bool) (HP : Nat → PC) (hn : Nat) (t : Nat → Nat) (tn : Nat) (T : T7) (W1 W2 : TC) (st : Bool) : va_W := (clsB G ad q P Pd Ps kp HP hn t tn T W1 W2 st).flatten
def TBT (W : TC) : Prop := TBd W.1 W.2.1 W.2.2.1 W.2.2.2.1 W.2.2.2.2.1 ∧ W.2.2.2.2.2 ≤ 12
/-- what is told of a state -/
def wT (g : Nat → Nat) (W : TC) : TC := (dstD g W.1, dsV (dstD g W.1), gaV (dstD g W.1), suI W.2.2.2.1 (tSg g (dstD g W.1)) (kA g), suI W.2.2.2.2.1 (tRg g (dstD g W.1)) (kA g), kA g)
def wK (g : Nat → Nat) (st : Bool) (W : TC) : TC := if st then wT g W else W
def isC (x : Int32) : Bool := !(decide (x < 0)) && !(decide (14 ≤ x))
def isDi (x : Int32) : Bool := !(decide (x < 0)) && !(decide (4 ≤ x))
def nFar (n : Nat) : Int32 := if n < 1000000 then nI n else -5
theorem isC_n {x : Int32} (h : isC x = true) : ∃ j : Nat, j < 14 ∧ x = nI j := by
  unfold isC at h
  rw [Bool.and_eq_true] at h
  have h1 : ¬ x < 0 := by simpa using h.1
  have h2 : ¬ (14 : Int32) ≤ x := by simpa using h.2
  rcases pk_ix x (n := 14) (by decide) with a | a | a
  · exact absurd a h1
  · exact absurd a h2
  · exact a
theorem isDi_n {x : Int32} (h : isDi x = true) : ∃ j : Nat, j < 4 ∧ x = nI j := by
  unfold isDi at h
  rw [Bool.and_eq_true] at h
  have h1 : ¬ x < 0 := by simpa using h.1
  have h2 : ¬ (4 : Int32) ≤ x := by simpa using h.2
  rcases pk_ix x (n := 4) (by decide) with a | a | a
  · exact absurd a h1
  · exact absurd a h2
  · exact a
theorem tHas_s {k : Nat} {x : Int32} (hk : k < 2 ^ 31) (h : tHas (nI k) x = true) : ∃ j : Nat, j < k ∧ x = nI j := by
  unfold tHas at h
  rw [Bool.and_eq_true] at h
  have h1 : ¬ x < 0 := by simpa using h.1
  have h2 : ¬ nI k ≤ x := by simpa using h.2
  rcases pk_ix x hk with a | a | a
  · exact absurd a h1
  · exact absurd a h2
  · exact a
theorem wT_TBT {g : Nat → Nat} (hv : Vg g) {W : TC} (h : TBT W) : TBT (wT g W) := ⟨TBd_suI (g := g) (di := W.2.1) (ga := W.2.2.1) ⟨DDI_WB hv (Nat.le_refl _), h.1.2⟩, hv.2.1⟩
theorem wK_TBT {g : Nat → Nat} (hv : Vg g) {st : Bool} {W : TC} (h : TBT W) : TBT (wK g st W) := by
  unfold wK
  split
  · exact wT_TBT hv h
  · exact h

set_option maxRecDepth 100000 in
set_option maxHeartbeats 4000000 in
theorem m_X6_isCrossing {l : Launch} {G : GG} {x : Int32} : zX l G yX6_isCrossing cX6_isCrossing 1 (some .boolean) 0 0 0 0 [.int x] ([]) (zF (some (.int (bI (isC x)))) ([])) := by
  refine zj_startF RX6 (by decide +kernel) rfl rfl rfl (bs := []) rfl (lo := [some (.int x)]) rfl ?_
  intro p0 e0 s0 m0 args0 below0 meth0 c0 A0 C hr hlocks
  refine zj_iload_n (pc := 0) C dX6_isCrossing_0 rfl ?_
  refine zj_if_lt (pc := 1) 14 C dX6_isCrossing_1 (by decide) (fun c_1 => ?_) (fun c_1 => ?_)
  · refine zj_iconst (pc := 14) (v := 0) C dX6_isCrossing_14 (by decide) ?_
    refine zj_zretF C hr hlocks dX6_isCrossing_15 ?_ rfl
    (simp [isC, bI, c_1] <;> rfl)
  · refine zj_iload_n (pc := 4) C dX6_isCrossing_4 rfl ?_
    refine zj_bipush (pc := 5) (v := 14) C dX6_isCrossing_5 (by decide) ?_
    refine zm_icmp_ge_0 (pc := 7) C dX6_isCrossing_7 dX6_isCrossing_10 dX6_isCrossing_11 dX6_isCrossing_14 ?_
    refine zj_zretF C hr hlocks dX6_isCrossing_15 ?_ rfl
    (simp [isC, bI, c_1] <;> rfl)
set_option maxRecDepth 100000 in
set_option maxHeartbeats 4000000 in
theorem m_X6_isDistrict {l : Launch} {G : GG} {x : Int32} : zX l G yX6_isDistrict cX6_isDistrict 1 (some .boolean) 0 0 0 0 [.int x] ([]) (zF (some (.int (bI (isDi x)))) ([])) := by
  refine zj_startF RX6 (by decide +kernel) rfl rfl rfl (bs := []) rfl (lo := [some (.int x)]) rfl ?_
  intro p0 e0 s0 m0 args0 below0 meth0 c0 A0 C hr hlocks
  refine zj_iload_n (pc := 0) C dX6_isDistrict_0 rfl ?_
  refine zj_if_lt (pc := 1) 13 C dX6_isDistrict_1 (by decide) (fun c_1 => ?_) (fun c_1 => ?_)
  · refine zj_iconst (pc := 13) (v := 0) C dX6_isDistrict_13 (by decide) ?_
    refine zj_zretF C hr hlocks dX6_isDistrict_14 ?_ rfl
    (simp [isDi, bI, c_1] <;> rfl)
  · refine zj_iload_n (pc := 4) C dX6_isDistrict_4 rfl ?_
    refine zj_iconst (pc := 5) (v := 4) C dX6_isDistrict_5 (by decide) ?_
    refine zm_icmp_ge_0 (pc := 6) C dX6_isDistrict_6 dX6_isDistrict_9 dX6_isDistrict_10 dX6_isDistrict_13 ?_
    refine zj_zretF C hr hlocks dX6_isDistrict_14 ?_ rfl
    (simp [isDi, bI, c_1] <;> rfl)
set_option maxRecDepth 100000 in
set_option maxHeartbeats 4000000 in
theorem m_X6_noneIfFar {l : Launch} {G : GG} {n : Nat} (hn : n < 2 ^ 31) : zX l G yX6_noneIfFar cX6_noneIfFar 1 (some .int) 0 0 0 0 [.int (nI n)] ([]) (zF (some (.int (nFar n))) ([])) := by
  refine zj_startF RX6 (by decide +kernel) rfl rfl rfl (bs := []) rfl (lo := [some (.int (nI n))]) rfl ?_
  intro p0 e0 s0 m0 args0 below0 meth0 c0 A0 C hr hlocks
  refine zj_iload_n (pc := 0) C dX6_noneIfFar_0 rfl ?_
  refine zj_ldc (pc := 1) (v := 1000000) C dX6_noneIfFar_1 aq_390 ?_
  refine zj_icmp_ge (pc := 3) 10 C dX6_noneIfFar_3 (by decide) (fun c_3 => ?_) (fun c_3 => ?_)
  · refine zj_bipush (pc := 10) (v := (-5)) C dX6_noneIfFar_10 (by decide) ?_
    refine zj_iretF C hr hlocks dX6_noneIfFar_12 ?_ rfl
    rw [show (1000000 : Int32) = nI 1000000 from rfl, nI_leI (by omega) (by omega)] at c_3
    unfold nFar
    rw [if_neg (by omega)]
  · refine zj_iload_n (pc := 6) C dX6_noneIfFar_6 rfl ?_
    refine zj_goto (pc := 7) (tgt := 12) C dX6_noneIfFar_7 (by decide) ?_
    refine zj_iretF C hr hlocks dX6_noneIfFar_12 ?_ rfl
    rw [show (1000000 : Int32) = nI 1000000 from rfl, nI_leI (by omega) (by omega)] at c_3
    unfold nFar
    rw [if_pos (by omega)]
set_option maxRecDepth 100000 in
set_option maxHeartbeats 4000000 in
theorem m_X6_beginAct {l : Launch} {G : GG} {ad : Nat → Nat → Nat} {q : Nat → Nat → Nat} {P Pd Ps : PC} {kp : Bool} {HP : Nat → PC} {hn : Nat} {t : Nat → Nat} {tn : Nat} {T : T7} {W1 W2 : TC} {st : Bool} (hh : hn ≤ 4) : zX l G yX6_beginAct cX6_beginAct 1 none 4 90 0 0 [.ref (ad 0 0)] (cls G ad q P Pd Ps kp HP hn t tn T W1 W2 st) (zF none (cls G ad (hQ q hn) P Pd Ps kp (hP' HP hn P) (hN hn) t tn T W1 W2 true)) := by
  refine zj_startF RX6 (by decide +kernel) rfl rfl rfl (bs := [[((ad 0 0), .inr (6, [.ref (ad 1 0), .ref (ad 2 0), .ref (ad 3 0), .int (bI kp), .ref (ad 4 0), .ref (ad 5 0), .ref (ad 6 0), .ref (ad 7 0), .int (bI st)]))], plan G (ad 1) P, plan G (ad 2) Pd, plan G (ad 3) Ps, hist G (ad 4) q HP hn, text G (ad 5 0) (ad 5 1) t tn T, totT G (ad 6) W1, totT G (ad 7) W2]) rfl (lo := [some (.ref (ad 0 0))]) rfl ?_
  intro p0 e0 s0 m0 args0 below0 meth0 c0 A0 C hr hlocks
  refine zj_aload_n (pc := 0) C dX6_beginAct_0 rfl ?_
  refine gf_X6_4 (pc := 1) C dX6_beginAct_1 0 rfl ?_
  refine zj_aload_n (pc := 4) C dX6_beginAct_4 rfl ?_
  refine gf_X6_0 (pc := 5) C dX6_beginAct_5 0 rfl ?_
  refine zj_callF2n (pc := 8) C kv_X6_237 (m_X0_record hh) dX6_beginAct_8 4 1 rfl rfl rfl rfl rfl rfl rfl rfl rfl ⟨0, rfl⟩ rfl rfl ?_
  refine zj_aload_n (pc := 11) C dX6_beginAct_11 rfl ?_
  refine zj_iconst (pc := 12) (v := 1) C dX6_beginAct_12 (by decide) ?_
  refine pf_X6_8 (pc := 13) (x := true) C dX6_beginAct_13 0 rfl ?_
  refine zj_vretF C hr hlocks dX6_beginAct_16 ?_
  exact rfl
set_option maxRecDepth 100000 in
set_option maxHeartbeats 4000000 in
theorem m_X6_workOut {l : Launch} {G : GG} {ad : Nat → Nat → Nat} {q : Nat → Nat → Nat} {P Pd Ps : PC} {kp : Bool} {HP : Nat → PC} {hn : Nat} {t : Nat → Nat} {tn : Nat} {T : T7} {W1 W2 : TC} {st : Bool} {g : Nat → Nat} (hP : PR g P) (hv : Vg g) (hW1 : TBT W1) : zX l G yX6_workOut cX6_workOut 1 none 6 143 0 0 [.ref (ad 0 0)] (cls G ad q P Pd Ps kp HP hn t tn T W1 W2 st) (zF none (cls G ad q P Pd Ps kp HP hn t tn T (wK g st W1) W2 false)) := by
  refine zj_startF RX6 (by decide +kernel) rfl rfl rfl (bs := [[((ad 0 0), .inr (6, [.ref (ad 1 0), .ref (ad 2 0), .ref (ad 3 0), .int (bI kp), .ref (ad 4 0), .ref (ad 5 0), .ref (ad 6 0), .ref (ad 7 0), .int (bI st)]))], plan G (ad 1) P, plan G (ad 2) Pd, plan G (ad 3) Ps, hist G (ad 4) q HP hn, text G (ad 5 0) (ad 5 1) t tn T, totT G (ad 6) W1, totT G (ad 7) W2]) rfl (lo := [some (.ref (ad 0 0))]) rfl ?_
  intro p0 e0 s0 m0 args0 below0 meth0 c0 A0 C hr hlocks
  refine zj_aload_n (pc := 0) C dX6_workOut_0 rfl ?_
  refine gf_X6_8 (pc := 1) C dX6_workOut_1 0 rfl ?_
  refine zj_ifb_eq (pc := 4) 23 C dX6_workOut_4 (by decide) (fun c_4 => ?_) (fun c_4 => ?_)
  · refine zj_vretF C hr hlocks dX6_workOut_23 ?_
    rw [c_4]
    exact rfl
  · refine zj_aload_n (pc := 7) C dX6_workOut_7 rfl ?_
    refine gf_X6_6 (pc := 8) C dX6_workOut_8 0 rfl ?_
    refine zj_aload_n (pc := 11) C dX6_workOut_11 rfl ?_
    refine gf_X6_0 (pc := 12) C dX6_workOut_12 0 rfl ?_
    refine zj_callF2n (pc := 15) C kv_X6_240 (m_X4_workOutAll hW1.1 hP hv) dX6_workOut_15 6 1 rfl rfl rfl rfl rfl rfl rfl rfl rfl ⟨0, rfl⟩ rfl rfl ?_
    refine zj_aload_n (pc := 18) C dX6_workOut_18 rfl ?_
    refine zj_iconst (pc := 19) (v := 0) C dX6_workOut_19 (by decide) ?_
    refine pf_X6_8 (pc := 20) (x := false) C dX6_workOut_20 0 rfl ?_
    refine zj_vretF C hr hlocks dX6_workOut_23 ?_
    rw [c_4]
    exact rfl
