/-! THE REFERENCE'S SMALL METHODS -/
/-- the state may hold one lane more than the class's -/
def Vk (g : Nat → Nat) : Prop := kL g ≤ 25 ∧ kA g ≤ 12 ∧ (∀ x, x < 14 → g x ≤ 9) ∧ (∀ i, i < kL g → lnC g i 0 < 14 ∧ lnC g i 1 < 14 ∧ lnC g i 0 ≠ lnC g i 1 ∧ 1 ≤ lnC g i 2 ∧ lnC g i 2 ≤ 20 ∧ lnC g i 3 < 4 ∧ lnC g i 4 ≤ 1) ∧ ∀ i, i < kA g → alC g i 0 < 14 ∧ alC g i 1 ≤ 20 ∧ alC g i 2 < 4
theorem Vk_of {g : Nat → Nat} (h : Vg g) : Vk g := ⟨Nat.le_trans h.1 (by decide), h.2⟩
def inB (v lo hi : Int32) : Bool := !(decide (v < lo)) && !(decide (hi < v))
theorem inB_C {x : Int32} : inB x 0 13 = isC x := by
  unfold inB isC
  congr 2
theorem inB_D {x : Int32} : inB x 0 3 = isDi x := by
  unfold inB isDi
  congr 2
theorem inB_H {x : Int32} {k : Nat} (hk : k < 2 ^ 30) : inB x 0 (nI k - 1) = tHas (nI k) x := by
  unfold inB tHas
  congr 2
  have h1 : (nI k - 1).toInt = (k : Int) - 1 := pk_sub_toInt (b := 1) (by omega) (by decide)
  have : (nI k - 1) < x ↔ nI k ≤ x := by rw [Int32.lt_iff_toInt_lt, Int32.le_iff_toInt_le, h1, nI_toInt (by omega)]; omega
  simp only [this]
theorem lnC_ix {g : Nat → Nat} {i c : Nat} : g (15 + 5 * i + c) = lnC g i c := by
  unfold lnC
  congr 1
  omega
theorem alC_ix {g : Nat → Nat} {i c : Nat} : g (141 + 3 * i + c) = alC g i c := by
  unfold alC
  congr 1
  omega

set_option maxRecDepth 100000 in
set_option maxHeartbeats 4000000 in
theorem m_X7_in {l : Launch} {G : GG} {v lo hi : Int32} : zX l G yX7_in cX7_in 3 (some .boolean) 0 0 0 0 [.int (v), .int (lo), .int (hi)] ([]) (zF (some (.int (bI (inB v lo hi)))) ([])) := by
  refine zj_startF RX7 (by decide +kernel) rfl rfl rfl (bs := []) rfl (lo := [some (.int (v)), some (.int (lo)), some (.int (hi))]) rfl ?_
  intro p0 e0 s0 m0 args0 below0 meth0 c0 A0 C hr hlocks
  refine zq_mrg 15 [] (bI (inB v lo hi)) ?_ (fun kk => ?_)
  · exact zj_zretF C hr hlocks dX7_in_15 rfl rfl
  · refine zj_iload_n (pc := 0) C dX7_in_0 rfl ?_
    refine zj_iload_n (pc := 1) C dX7_in_1 rfl ?_
    refine zj_icmp_lt (pc := 2) 14 C dX7_in_2 (by decide) (fun c_2 => ?_) (fun c_2 => ?_)
    · refine zj_iconst (pc := 14) (v := nI 0) C dX7_in_14 (by decide) ?_
      exact zj_top (x' := bI (inB v lo hi)) (zq_f (by first | rfl | (simp [c_2, inB]; done) | (simp [c_2, inB]; omega) | omega | (split <;> first | rfl | omega))) kk
    · refine zj_iload_n (pc := 5) C dX7_in_5 rfl ?_
      refine zj_iload_n (pc := 6) C dX7_in_6 rfl ?_
      refine zj_icmp_gt (pc := 7) 14 C dX7_in_7 (by decide) (fun c_7 => ?_) (fun c_7 => ?_)
      · refine zj_iconst (pc := 14) (v := nI 0) C dX7_in_14 (by decide) ?_
        exact zj_top (x' := bI (inB v lo hi)) (zq_f (by first | rfl | (simp [c_2, c_7, inB]; done) | (simp [c_2, c_7, inB]; omega) | omega | (split <;> first | rfl | omega))) kk
      · refine zj_iconst (pc := 10) (v := nI 1) C dX7_in_10 (by decide) ?_
        refine zj_goto (pc := 11) (tgt := 15) C dX7_in_11 (by decide) ?_
        exact zj_top (x' := bI (inB v lo hi)) (zq_t (by first | rfl | (simp [c_2, c_7, inB]; done) | (simp [c_2, c_7, inB]; omega) | omega | (split <;> first | rfl | omega))) kk
set_option maxRecDepth 100000 in
set_option maxHeartbeats 4000000 in
theorem m_X7_isCrossing {l : Launch} {G : GG} {x : Int32} : zX l G yX7_isCrossing cX7_isCrossing 1 (some .boolean) 1 22 0 0 [.int (x)] ([]) (zF (some (.int (bI (isC x)))) ([])) := by
  refine zj_startF RX7 (by decide +kernel) rfl rfl rfl (bs := []) rfl (lo := [some (.int (x))]) rfl ?_
  intro p0 e0 s0 m0 args0 below0 meth0 c0 A0 C hr hlocks
  refine zj_iload_n (pc := 0) C dX7_isCrossing_0 rfl ?_
  refine zj_iconst (pc := 1) (v := nI 0) C dX7_isCrossing_1 (by decide) ?_
  refine zj_bipush (pc := 2) (v := nI 13) C dX7_isCrossing_2 (by decide) ?_
  refine zj_callSF (pc := 4) C kv_X7_43 (m_X7_in) dX7_isCrossing_4 rfl rfl rfl rfl rfl rfl ?_
  exact zj_zretF C hr hlocks dX7_isCrossing_7 (congrArg bI inB_C) rfl
set_option maxRecDepth 100000 in
set_option maxHeartbeats 4000000 in
theorem m_X7_isDistrict {l : Launch} {G : GG} {x : Int32} : zX l G yX7_isDistrict cX7_isDistrict 1 (some .boolean) 1 22 0 0 [.int (x)] ([]) (zF (some (.int (bI (isDi x)))) ([])) := by
  refine zj_startF RX7 (by decide +kernel) rfl rfl rfl (bs := []) rfl (lo := [some (.int (x))]) rfl ?_
  intro p0 e0 s0 m0 args0 below0 meth0 c0 A0 C hr hlocks
  refine zj_iload_n (pc := 0) C dX7_isDistrict_0 rfl ?_
  refine zj_iconst (pc := 1) (v := nI 0) C dX7_isDistrict_1 (by decide) ?_
  refine zj_iconst (pc := 2) (v := nI 3) C dX7_isDistrict_2 (by decide) ?_
  refine zj_callSF (pc := 3) C kv_X7_43 (m_X7_in) dX7_isDistrict_3 rfl rfl rfl rfl rfl rfl ?_
  exact zj_zretF C hr hlocks dX7_isDistrict_6 (congrArg bI inB_D) rfl
set_option maxRecDepth 100000 in
set_option maxHeartbeats 4000000 in
theorem m_X7_at {l : Launch} {G : GG} {d x y : Nat} : zX l G yX7_at cX7_at 3 (some .int) 0 0 0 0 [.int (nI (d)), .int (nI (x)), .int (nI (y))] ([]) (zF (some (.int (nI (196 * d + 14 * x + y)))) ([])) := by
  refine zj_startF RX7 (by decide +kernel) rfl rfl rfl (bs := []) rfl (lo := [some (.int (nI (d))), some (.int (nI (x))), some (.int (nI (y)))]) rfl ?_
  intro p0 e0 s0 m0 args0 below0 meth0 c0 A0 C hr hlocks
  refine zj_sipush (pc := 0) (v := nI 196) C dX7_at_0 (by decide) ?_
  refine zj_iload_n (pc := 3) C dX7_at_3 rfl ?_
  refine zq_imul (pc := 4) C dX7_at_4 ?_
  refine zj_bipush (pc := 5) (v := nI 14) C dX7_at_5 (by decide) ?_
  refine zj_iload_n (pc := 7) C dX7_at_7 rfl ?_
  refine zq_imul (pc := 8) C dX7_at_8 ?_
  refine zq_iadd (pc := 9) C dX7_at_9 ?_
  refine zj_iload_n (pc := 10) C dX7_at_10 rfl ?_
  refine zq_iadd (pc := 11) C dX7_at_11 ?_
  exact zj_iretF C hr hlocks dX7_at_12 rfl rfl
set_option maxRecDepth 100000 in
set_option maxHeartbeats 4000000 in
theorem m_X7_isLane {l : Launch} {G : GG} {m : Nat → Nat} {g ga gh : Nat → Nat} {kn : Nat} {gk : Nat → Nat} {kp : Bool} {tx : Nat → Nat} {ln : Nat} {iz wy wa tt rr we : Nat → Nat} {sp : Nat} {wr : Bool} {er : Int32} {x : Int32} (hv : Vk g) : zX l G yX7_isLane cX7_isLane 2 (some .boolean) 1 22 0 0 [.ref (m 0), .int (x)] (mB G m g ga gh kn gk kp tx ln iz wy wa tt rr we sp wr er).flatten (zF (some (.int (bI (tHas (nI (kL g)) x)))) (mB G m g ga gh kn gk kp tx ln iz wy wa tt rr we sp wr er).flatten) := by
  refine zj_startF RX7 (by decide +kernel) rfl rfl rfl (bs := (mB G m g ga gh kn gk kp tx ln iz wy wa tt rr we sp wr er)) rfl (lo := [some (.ref (m 0)), some (.int (x))]) rfl ?_
  intro p0 e0 s0 m0 args0 below0 meth0 c0 A0 C hr hlocks
  have hk : kL g ≤ 25 := hv.1
  unfold kL at hk
  refine zj_iload_n (pc := 0) C dX7_isLane_0 rfl ?_
  refine zj_iconst (pc := 1) (v := nI 0) C dX7_isLane_1 (by decide) ?_
  refine zj_aload_n (pc := 2) C dX7_isLane_2 rfl ?_
  refine gf_X7_0 (pc := 3) C dX7_isLane_3 0 rfl ?_
  refine zj_bipush (pc := 6) (v := nI 14) C dX7_isLane_6 (by decide) ?_
  refine zq_iald (pc := 8) C dX7_isLane_8 1 rfl (by omega) (by decide) ?_
  refine zj_iconst (pc := 9) (v := nI 1) C dX7_isLane_9 (by decide) ?_
  refine zj_isub (pc := 10) C dX7_isLane_10 ?_
  refine zj_callSF (pc := 11) C kv_X7_43 (m_X7_in) dX7_isLane_11 rfl rfl rfl rfl rfl rfl ?_
  exact zj_zretF C hr hlocks dX7_isLane_14 (congrArg bI (inB_H (by omega))) rfl
set_option maxRecDepth 100000 in
set_option maxHeartbeats 4000000 in
theorem m_X7_isAlley {l : Launch} {G : GG} {m : Nat → Nat} {g ga gh : Nat → Nat} {kn : Nat} {gk : Nat → Nat} {kp : Bool} {tx : Nat → Nat} {ln : Nat} {iz wy wa tt rr we : Nat → Nat} {sp : Nat} {wr : Bool} {er : Int32} {x : Int32} (hv : Vk g) : zX l G yX7_isAlley cX7_isAlley 2 (some .boolean) 1 22 0 0 [.ref (m 0), .int (x)] (mB G m g ga gh kn gk kp tx ln iz wy wa tt rr we sp wr er).flatten (zF (some (.int (bI (tHas (nI (kA g)) x)))) (mB G m g ga gh kn gk kp tx ln iz wy wa tt rr we sp wr er).flatten) := by
  refine zj_startF RX7 (by decide +kernel) rfl rfl rfl (bs := (mB G m g ga gh kn gk kp tx ln iz wy wa tt rr we sp wr er)) rfl (lo := [some (.ref (m 0)), some (.int (x))]) rfl ?_
  intro p0 e0 s0 m0 args0 below0 meth0 c0 A0 C hr hlocks
  have hk : kA g ≤ 12 := hv.2.1
  unfold kA at hk
  refine zj_iload_n (pc := 0) C dX7_isAlley_0 rfl ?_
  refine zj_iconst (pc := 1) (v := nI 0) C dX7_isAlley_1 (by decide) ?_
  refine zj_aload_n (pc := 2) C dX7_isAlley_2 rfl ?_
  refine gf_X7_0 (pc := 3) C dX7_isAlley_3 0 rfl ?_
  refine zj_sipush (pc := 6) (v := nI 140) C dX7_isAlley_6 (by decide) ?_
  refine zq_iald (pc := 9) C dX7_isAlley_9 1 rfl (by omega) (by decide) ?_
  refine zj_iconst (pc := 10) (v := nI 1) C dX7_isAlley_10 (by decide) ?_
  refine zj_isub (pc := 11) C dX7_isAlley_11 ?_
  refine zj_callSF (pc := 12) C kv_X7_43 (m_X7_in) dX7_isAlley_12 rfl rfl rfl rfl rfl rfl ?_
  exact zj_zretF C hr hlocks dX7_isAlley_15 (congrArg bI (inB_H (by omega))) rfl
set_option maxRecDepth 100000 in
set_option maxHeartbeats 4000000 in
theorem m_X7_of {l : Launch} {G : GG} {m : Nat → Nat} {g ga gh : Nat → Nat} {kn : Nat} {gk : Nat → Nat} {kp : Bool} {tx : Nat → Nat} {ln : Nat} {iz wy wa tt rr we : Nat → Nat} {sp : Nat} {wr : Bool} {er : Int32} {i c : Nat} (hi : i < 25) (hc : c < 5) : zX l G yX7_of cX7_of 3 (some .int) 0 0 0 0 [.ref (m 0), .int (nI (i)), .int (nI (c))] (mB G m g ga gh kn gk kp tx ln iz wy wa tt rr we sp wr er).flatten (zF (some (.int (nI (lnC g i c)))) (mB G m g ga gh kn gk kp tx ln iz wy wa tt rr we sp wr er).flatten) := by
  refine zj_startF RX7 (by decide +kernel) rfl rfl rfl (bs := (mB G m g ga gh kn gk kp tx ln iz wy wa tt rr we sp wr er)) rfl (lo := [some (.ref (m 0)), some (.int (nI (i))), some (.int (nI (c)))]) rfl ?_
  intro p0 e0 s0 m0 args0 below0 meth0 c0 A0 C hr hlocks
  refine zj_aload_n (pc := 0) C dX7_of_0 rfl ?_
  refine gf_X7_0 (pc := 1) C dX7_of_1 0 rfl ?_
  refine zj_bipush (pc := 4) (v := nI 15) C dX7_of_4 (by decide) ?_
  refine zj_iconst (pc := 6) (v := nI 5) C dX7_of_6 (by decide) ?_
  refine zj_iload_n (pc := 7) C dX7_of_7 rfl ?_
  refine zq_imul (pc := 8) C dX7_of_8 ?_
  refine zq_iadd (pc := 9) C dX7_of_9 ?_
  refine zj_iload_n (pc := 10) C dX7_of_10 rfl ?_
  refine zq_iadd (pc := 11) C dX7_of_11 ?_
  refine zq_iald (pc := 12) C dX7_of_12 1 rfl (by omega) (by decide) ?_
  exact zj_iretF C hr hlocks dX7_of_13 (congrArg nI lnC_ix) rfl
set_option maxRecDepth 100000 in
set_option maxHeartbeats 4000000 in
theorem m_X7_ofAlley {l : Launch} {G : GG} {m : Nat → Nat} {g ga gh : Nat → Nat} {kn : Nat} {gk : Nat → Nat} {kp : Bool} {tx : Nat → Nat} {ln : Nat} {iz wy wa tt rr we : Nat → Nat} {sp : Nat} {wr : Bool} {er : Int32} {i c : Nat} (hi : i < 12) (hc : c < 3) : zX l G yX7_ofAlley cX7_ofAlley 3 (some .int) 0 0 0 0 [.ref (m 0), .int (nI (i)), .int (nI (c))] (mB G m g ga gh kn gk kp tx ln iz wy wa tt rr we sp wr er).flatten (zF (some (.int (nI (alC g i c)))) (mB G m g ga gh kn gk kp tx ln iz wy wa tt rr we sp wr er).flatten) := by
  refine zj_startF RX7 (by decide +kernel) rfl rfl rfl (bs := (mB G m g ga gh kn gk kp tx ln iz wy wa tt rr we sp wr er)) rfl (lo := [some (.ref (m 0)), some (.int (nI (i))), some (.int (nI (c)))]) rfl ?_
  intro p0 e0 s0 m0 args0 below0 meth0 c0 A0 C hr hlocks
  refine zj_aload_n (pc := 0) C dX7_ofAlley_0 rfl ?_
  refine gf_X7_0 (pc := 1) C dX7_ofAlley_1 0 rfl ?_
  refine zj_sipush (pc := 4) (v := nI 141) C dX7_ofAlley_4 (by decide) ?_
  refine zj_iconst (pc := 7) (v := nI 3) C dX7_ofAlley_7 (by decide) ?_
  refine zj_iload_n (pc := 8) C dX7_ofAlley_8 rfl ?_
  refine zq_imul (pc := 9) C dX7_ofAlley_9 ?_
  refine zq_iadd (pc := 10) C dX7_ofAlley_10 ?_
  refine zj_iload_n (pc := 11) C dX7_ofAlley_11 rfl ?_
  refine zq_iadd (pc := 12) C dX7_ofAlley_12 ?_
  refine zq_iald (pc := 13) C dX7_ofAlley_13 1 rfl (by omega) (by decide) ?_
  exact zj_iretF C hr hlocks dX7_ofAlley_14 (congrArg nI alC_ix) rfl
