set_option maxRecDepth 100000 in
set_option maxHeartbeats 4000000 in
theorem m_X4_way {l : Launch} {G : GG} {a : Nat → Nat} {D : Nat → Nat → Nat → Nat} {di ga su ru : Nat → Nat} {n : Nat} {d x y : Nat} (hd : d < 5) (hx : x < 14) (hy : y < 14) : zX l G yX4_way cX4_way 4 (some .int) 1 24 0 0 [.ref (a 0), .int (nI d), .int (nI x), .int (nI y)] (tot G a D di ga su ru n) (zF (some (.int (nI (D d x y)))) (tot G a D di ga su ru n)) := by
  refine zj_startF RX4 (by decide +kernel) rfl rfl rfl (bs := [[((a 0), .inr (4, [.ref (a 1), .ref (a 3), .ref (a 5), .ref (a 7), .ref (a 9), .int (nI n)]))], ways G (a 1) (a 2) D, tbl G (a 3) (a 4) 14 (nI 1) (nF di) 0, tbl G (a 5) (a 6) 4 (nI 1) (nF ga) 0, tbl G (a 7) (a 8) 168 (nI 12) (nF su) 0, tbl G (a 9) (a 10) 168 (nI 12) (nF ru) 0]) rfl (lo := [some (.ref (a 0)), some (.int (nI d)), some (.int (nI x)), some (.int (nI y))]) rfl ?_
  intro p0 e0 s0 m0 args0 below0 meth0 c0 A0 C hr hlocks
  refine zj_aload_n (pc := 0) C dX4_way_0 rfl ?_
  refine gf_X4_0 (pc := 1) C dX4_way_1 0 rfl ?_
  refine zj_iload_n (pc := 4) C dX4_way_4 rfl ?_
  refine zj_iload_n (pc := 5) C dX4_way_5 rfl ?_
  refine zj_iload_n (pc := 6) C dX4_way_6 rfl ?_
  refine zj_callP1 (pc := 7) C kv_X4_89 (m_X5_between hd hx hy) dX4_way_7 1 rfl rfl rfl rfl rfl rfl rfl ⟨0, rfl⟩ rfl rfl ?_
  refine zj_iretF C hr hlocks dX4_way_10 ?_ rfl
  exact rfl
set_option maxRecDepth 100000 in
set_option maxHeartbeats 4000000 in
theorem m_X4_districtsOf {l : Launch} {G : GG} {a : Nat → Nat} {D : Nat → Nat → Nat → Nat} {di ga su ru : Nat → Nat} {n : Nat} {x : Nat} (hx : x < 14) : zX l G yX4_districtsOf cX4_districtsOf 2 (some .int) 1 23 0 0 [.ref (a 0), .int (nI x)] (tot G a D di ga su ru n) (zF (some (.int (nI (di x)))) (tot G a D di ga su ru n)) := by
  refine zj_startF RX4 (by decide +kernel) rfl rfl rfl (bs := [[((a 0), .inr (4, [.ref (a 1), .ref (a 3), .ref (a 5), .ref (a 7), .ref (a 9), .int (nI n)]))], ways G (a 1) (a 2) D, tbl G (a 3) (a 4) 14 (nI 1) (nF di) 0, tbl G (a 5) (a 6) 4 (nI 1) (nF ga) 0, tbl G (a 7) (a 8) 168 (nI 12) (nF su) 0, tbl G (a 9) (a 10) 168 (nI 12) (nF ru) 0]) rfl (lo := [some (.ref (a 0)), some (.int (nI x))]) rfl ?_
  intro p0 e0 s0 m0 args0 below0 meth0 c0 A0 C hr hlocks
  refine zj_aload_n (pc := 0) C dX4_districtsOf_0 rfl ?_
  refine gf_X4_1 (pc := 1) C dX4_districtsOf_1 0 rfl ?_
  refine zj_iload_n (pc := 4) C dX4_districtsOf_4 rfl ?_
  refine zj_iconst (pc := 5) (v := 0) C dX4_districtsOf_5 (by decide) ?_
  refine zj_callP1 (pc := 6) C kv_X4_100 (m_X2_at (by decide)) dX4_districtsOf_6 2 rfl rfl rfl rfl rfl rfl rfl ⟨0, rfl⟩ rfl rfl ?_
  refine zj_iretF C hr hlocks dX4_districtsOf_9 ?_ rfl
  exact tAt_1 hx (by decide)
set_option maxRecDepth 100000 in
set_option maxHeartbeats 4000000 in
theorem m_X4_isIn {l : Launch} {G : GG} {a : Nat → Nat} {D : Nat → Nat → Nat → Nat} {di ga su ru : Nat → Nat} {n : Nat} {d x : Nat} (hd : d < 4) (hx : x < 14) (hdi : di x < 16) : zX l G yX4_isIn cX4_isIn 3 (some .boolean) 1 23 0 0 [.ref (a 0), .int (nI d), .int (nI x)] (tot G a D di ga su ru n) (zF (some (.int (bI (bitB (di x) d)))) (tot G a D di ga su ru n)) := by
  refine zj_startF RX4 (by decide +kernel) rfl rfl rfl (bs := [[((a 0), .inr (4, [.ref (a 1), .ref (a 3), .ref (a 5), .ref (a 7), .ref (a 9), .int (nI n)]))], ways G (a 1) (a 2) D, tbl G (a 3) (a 4) 14 (nI 1) (nF di) 0, tbl G (a 5) (a 6) 4 (nI 1) (nF ga) 0, tbl G (a 7) (a 8) 168 (nI 12) (nF su) 0, tbl G (a 9) (a 10) 168 (nI 12) (nF ru) 0]) rfl (lo := [some (.ref (a 0)), some (.int (nI d)), some (.int (nI x))]) rfl ?_
  intro p0 e0 s0 m0 args0 below0 meth0 c0 A0 C hr hlocks
  refine zj_aload_n (pc := 0) C dX4_isIn_0 rfl ?_
  refine gf_X4_1 (pc := 1) C dX4_isIn_1 0 rfl ?_
  refine zj_iload_n (pc := 4) C dX4_isIn_4 rfl ?_
  refine zj_iconst (pc := 5) (v := 0) C dX4_isIn_5 (by decide) ?_
  refine zj_callP1 (pc := 6) C kv_X4_100 (m_X2_at (by decide)) dX4_isIn_6 2 rfl rfl rfl rfl rfl rfl rfl ⟨0, rfl⟩ rfl rfl ?_
  refine zj_top (x' := nI (di x)) (tAt_1 hx (by decide)) ?_
  refine zj_iload_n (pc := 9) C dX4_isIn_9 rfl ?_
  refine zj_ishr (pc := 10) C dX4_isIn_10 ?_
  refine zj_iconst (pc := 11) (v := 1) C dX4_isIn_11 (by decide) ?_
  refine zj_iand (pc := 12) C dX4_isIn_12 ?_
  refine zm_if_eq_0 (pc := 13) C dX4_isIn_13 dX4_isIn_16 dX4_isIn_17 dX4_isIn_20 ?_
  refine zj_zretF C hr hlocks dX4_isIn_21 ?_ rfl
  exact bitB_d (by omega) (by omega)
set_option maxRecDepth 100000 in
set_option maxHeartbeats 4000000 in
theorem m_X4_isGate {l : Launch} {G : GG} {a : Nat → Nat} {D : Nat → Nat → Nat → Nat} {di ga su ru : Nat → Nat} {n : Nat} {d x : Nat} (hd : d < 4) (hx : x < 14) (hga : ga d < 16384) : zX l G yX4_isGate cX4_isGate 3 (some .boolean) 1 23 0 0 [.ref (a 0), .int (nI d), .int (nI x)] (tot G a D di ga su ru n) (zF (some (.int (bI (bitB (ga d) x)))) (tot G a D di ga su ru n)) := by
  refine zj_startF RX4 (by decide +kernel) rfl rfl rfl (bs := [[((a 0), .inr (4, [.ref (a 1), .ref (a 3), .ref (a 5), .ref (a 7), .ref (a 9), .int (nI n)]))], ways G (a 1) (a 2) D, tbl G (a 3) (a 4) 14 (nI 1) (nF di) 0, tbl G (a 5) (a 6) 4 (nI 1) (nF ga) 0, tbl G (a 7) (a 8) 168 (nI 12) (nF su) 0, tbl G (a 9) (a 10) 168 (nI 12) (nF ru) 0]) rfl (lo := [some (.ref (a 0)), some (.int (nI d)), some (.int (nI x))]) rfl ?_
  intro p0 e0 s0 m0 args0 below0 meth0 c0 A0 C hr hlocks
  refine zj_aload_n (pc := 0) C dX4_isGate_0 rfl ?_
  refine gf_X4_2 (pc := 1) C dX4_isGate_1 0 rfl ?_
  refine zj_iload_n (pc := 4) C dX4_isGate_4 rfl ?_
  refine zj_iconst (pc := 5) (v := 0) C dX4_isGate_5 (by decide) ?_
  refine zj_callP1 (pc := 6) C kv_X4_100 (m_X2_at (by decide)) dX4_isGate_6 3 rfl rfl rfl rfl rfl rfl rfl ⟨0, rfl⟩ rfl rfl ?_
  refine zj_top (x' := nI (ga d)) (tAt_1 hd (by decide)) ?_
  refine zj_iload_n (pc := 9) C dX4_isGate_9 rfl ?_
  refine zj_ishr (pc := 10) C dX4_isGate_10 ?_
  refine zj_iconst (pc := 11) (v := 1) C dX4_isGate_11 (by decide) ?_
  refine zj_iand (pc := 12) C dX4_isGate_12 ?_
  refine zm_if_eq_0 (pc := 13) C dX4_isGate_13 dX4_isGate_16 dX4_isGate_17 dX4_isGate_20 ?_
  refine zj_zretF C hr hlocks dX4_isGate_21 ?_ rfl
  exact bitB_d (by omega) (by omega)
set_option maxRecDepth 100000 in
set_option maxHeartbeats 4000000 in
theorem m_X4_sumFor {l : Launch} {G : GG} {a : Nat → Nat} {D : Nat → Nat → Nat → Nat} {di ga su ru : Nat → Nat} {n : Nat} {x al : Nat} (hx : x < 14) (hal : al < 12) : zX l G yX4_sumFor cX4_sumFor 3 (some .int) 1 23 0 0 [.ref (a 0), .int (nI x), .int (nI al)] (tot G a D di ga su ru n) (zF (some (.int (nI (su (x * 12 + al))))) (tot G a D di ga su ru n)) := by
  refine zj_startF RX4 (by decide +kernel) rfl rfl rfl (bs := [[((a 0), .inr (4, [.ref (a 1), .ref (a 3), .ref (a 5), .ref (a 7), .ref (a 9), .int (nI n)]))], ways G (a 1) (a 2) D, tbl G (a 3) (a 4) 14 (nI 1) (nF di) 0, tbl G (a 5) (a 6) 4 (nI 1) (nF ga) 0, tbl G (a 7) (a 8) 168 (nI 12) (nF su) 0, tbl G (a 9) (a 10) 168 (nI 12) (nF ru) 0]) rfl (lo := [some (.ref (a 0)), some (.int (nI x)), some (.int (nI al))]) rfl ?_
  intro p0 e0 s0 m0 args0 below0 meth0 c0 A0 C hr hlocks
  refine zj_aload_n (pc := 0) C dX4_sumFor_0 rfl ?_
  refine gf_X4_3 (pc := 1) C dX4_sumFor_1 0 rfl ?_
  refine zj_iload_n (pc := 4) C dX4_sumFor_4 rfl ?_
  refine zj_iload_n (pc := 5) C dX4_sumFor_5 rfl ?_
  refine zj_callP1 (pc := 6) C kv_X4_100 (m_X2_at (by decide)) dX4_sumFor_6 4 rfl rfl rfl rfl rfl rfl rfl ⟨0, rfl⟩ rfl rfl ?_
  refine zj_iretF C hr hlocks dX4_sumFor_9 ?_ rfl
  exact tAt_s hx hal
set_option maxRecDepth 100000 in
set_option maxHeartbeats 4000000 in
theorem m_X4_ruleFor {l : Launch} {G : GG} {a : Nat → Nat} {D : Nat → Nat → Nat → Nat} {di ga su ru : Nat → Nat} {n : Nat} {x al : Nat} (hx : x < 14) (hal : al < 12) : zX l G yX4_ruleFor cX4_ruleFor 3 (some .int) 1 23 0 0 [.ref (a 0), .int (nI x), .int (nI al)] (tot G a D di ga su ru n) (zF (some (.int (nI (ru (x * 12 + al))))) (tot G a D di ga su ru n)) := by
  refine zj_startF RX4 (by decide +kernel) rfl rfl rfl (bs := [[((a 0), .inr (4, [.ref (a 1), .ref (a 3), .ref (a 5), .ref (a 7), .ref (a 9), .int (nI n)]))], ways G (a 1) (a 2) D, tbl G (a 3) (a 4) 14 (nI 1) (nF di) 0, tbl G (a 5) (a 6) 4 (nI 1) (nF ga) 0, tbl G (a 7) (a 8) 168 (nI 12) (nF su) 0, tbl G (a 9) (a 10) 168 (nI 12) (nF ru) 0]) rfl (lo := [some (.ref (a 0)), some (.int (nI x)), some (.int (nI al))]) rfl ?_
  intro p0 e0 s0 m0 args0 below0 meth0 c0 A0 C hr hlocks
  refine zj_aload_n (pc := 0) C dX4_ruleFor_0 rfl ?_
  refine gf_X4_4 (pc := 1) C dX4_ruleFor_1 0 rfl ?_
  refine zj_iload_n (pc := 4) C dX4_ruleFor_4 rfl ?_
  refine zj_iload_n (pc := 5) C dX4_ruleFor_5 rfl ?_
  refine zj_callP1 (pc := 6) C kv_X4_100 (m_X2_at (by decide)) dX4_ruleFor_6 5 rfl rfl rfl rfl rfl rfl rfl ⟨0, rfl⟩ rfl rfl ?_
  refine zj_iretF C hr hlocks dX4_ruleFor_9 ?_ rfl
  exact tAt_s hx hal
set_option maxRecDepth 100000 in
set_option maxHeartbeats 4000000 in
theorem m_X4_hasTotal {l : Launch} {G : GG} {a : Nat → Nat} {D : Nat → Nat → Nat → Nat} {di ga su ru : Nat → Nat} {n : Nat} {x al : Nat} (hx : x < 14) (hal : al < 12) (hru : ru (x * 12 + al) ≤ 3) : zX l G yX4_hasTotal cX4_hasTotal 3 (some .boolean) 2 45 0 0 [.ref (a 0), .int (nI x), .int (nI al)] (tot G a D di ga su ru n) (zF (some (.int (bI (!(ru (x * 12 + al) == 0))))) (tot G a D di ga su ru n)) := by
  refine zj_startF RX4 (by decide +kernel) rfl rfl rfl (bs := [[((a 0), .inr (4, [.ref (a 1), .ref (a 3), .ref (a 5), .ref (a 7), .ref (a 9), .int (nI n)]))], ways G (a 1) (a 2) D, tbl G (a 3) (a 4) 14 (nI 1) (nF di) 0, tbl G (a 5) (a 6) 4 (nI 1) (nF ga) 0, tbl G (a 7) (a 8) 168 (nI 12) (nF su) 0, tbl G (a 9) (a 10) 168 (nI 12) (nF ru) 0]) rfl (lo := [some (.ref (a 0)), some (.int (nI x)), some (.int (nI al))]) rfl ?_
  intro p0 e0 s0 m0 args0 below0 meth0 c0 A0 C hr hlocks
  refine zj_aload_n (pc := 0) C dX4_hasTotal_0 rfl ?_
  refine zj_iload_n (pc := 1) C dX4_hasTotal_1 rfl ?_
  refine zj_iload_n (pc := 2) C dX4_hasTotal_2 rfl ?_
  refine zj_callPA (pc := 3) C kv_X4_129 (m_X4_ruleFor hx hal) dX4_hasTotal_3 [0, 1, 2, 3, 4, 5] [] rfl rfl rfl rfl rfl rfl rfl rfl ⟨0, rfl⟩ rfl rfl ?_
  refine zm_if_eq_0 (pc := 6) C dX4_hasTotal_6 dX4_hasTotal_9 dX4_hasTotal_10 dX4_hasTotal_13 ?_
  refine zj_zretF C hr hlocks dX4_hasTotal_14 ?_ rfl
  simp [nI_z (show ru (x * 12 + al) < 2 ^ 31 by omega), bI]
set_option maxRecDepth 100000 in
set_option maxHeartbeats 4000000 in
theorem m_X4_gateDistrictsOf {l : Launch} {G : GG} {a : Nat → Nat} {D : Nat → Nat → Nat → Nat} {di ga su ru : Nat → Nat} {n : Nat} {x : Nat} (hx : x < 14) (hdi : di x < 16) : zX l G yX4_gateDistrictsOf cX4_gateDistrictsOf 3 (some .int) 2 45 0 0 [.ref (a 0), .int (nI x)] (tot G a D di ga su ru n) (zF (some (.int (nI (gdN di x)))) (tot G a D di ga su ru n)) := by
  refine zj_startF RX4 (by decide +kernel) rfl rfl rfl (bs := [[((a 0), .inr (4, [.ref (a 1), .ref (a 3), .ref (a 5), .ref (a 7), .ref (a 9), .int (nI n)]))], ways G (a 1) (a 2) D, tbl G (a 3) (a 4) 14 (nI 1) (nF di) 0, tbl G (a 5) (a 6) 4 (nI 1) (nF ga) 0, tbl G (a 7) (a 8) 168 (nI 12) (nF su) 0, tbl G (a 9) (a 10) 168 (nI 12) (nF ru) 0]) rfl (lo := [some (.ref (a 0)), some (.int (nI x)), none]) rfl ?_
  intro p0 e0 s0 m0 args0 below0 meth0 c0 A0 C hr hlocks
  refine zj_aload_n (pc := 0) C dX4_gateDistrictsOf_0 rfl ?_
  refine zj_iload_n (pc := 1) C dX4_gateDistrictsOf_1 rfl ?_
  refine zj_callPA (pc := 2) C kv_X4_146 (m_X4_districtsOf hx) dX4_gateDistrictsOf_2 [0, 1, 2, 3, 4, 5] [] rfl rfl rfl rfl rfl rfl rfl rfl ⟨0, rfl⟩ rfl rfl ?_
  refine zj_istore_n (pc := 5) C dX4_gateDistrictsOf_5 (Nat.le_of_ble_eq_true rfl) ?_
  refine zj_aload_n (pc := 6) C dX4_gateDistrictsOf_6 rfl ?_
  refine zj_iconst (pc := 7) (v := 0) C dX4_gateDistrictsOf_7 (by decide) ?_
  refine zj_iload_n (pc := 8) C dX4_gateDistrictsOf_8 rfl ?_
  refine zj_callPA (pc := 9) C kv_X4_93 (m_X4_isIn (d := 0) (by decide) hx hdi) dX4_gateDistrictsOf_9 [0, 1, 2, 3, 4, 5] [] rfl rfl rfl rfl rfl rfl rfl rfl ⟨0, rfl⟩ rfl rfl ?_
  refine zj_ifb_eq (pc := 12) 21 C dX4_gateDistrictsOf_12 (by decide) (fun c_12 => ?_) (fun c_12 => ?_)
  · refine zj_iconst (pc := 21) (v := 0) C dX4_gateDistrictsOf_21 (by decide) ?_
    refine zj_iretF C hr hlocks dX4_gateDistrictsOf_22 ?_ rfl
    unfold gdN
    rw [c_12]
    exact rfl
  · refine zj_iload_n (pc := 15) C dX4_gateDistrictsOf_15 rfl ?_
    refine zj_iconst (pc := 16) (v := 1) C dX4_gateDistrictsOf_16 (by decide) ?_
    refine zj_isub (pc := 17) C dX4_gateDistrictsOf_17 ?_
    refine zj_goto (pc := 18) (tgt := 22) C dX4_gateDistrictsOf_18 (by decide) ?_
    refine zj_iretF C hr hlocks dX4_gateDistrictsOf_22 ?_ rfl
    unfold gdN
    have h1 : 1 ≤ di x := by
      rcases Nat.eq_zero_or_pos (di x) with h | h
      · rw [h] at c_12
        exact absurd c_12 (by decide)
      · exact h
    rw [c_12]
    exact pk_sub (b := 1) h1
set_option maxRecDepth 100000 in
set_option maxHeartbeats 4000000 in
theorem m_X4_gateCount {l : Launch} {G : GG} {a : Nat → Nat} {D : Nat → Nat → Nat → Nat} {di ga su ru : Nat → Nat} {n : Nat} (hT : TBd D di ga su ru) : zX l G yX4_gateCount cX4_gateCount 3 (some .int) 3 67 0 0 [.ref (a 0)] (tot G a D di ga su ru n) (zF (some (.int (nI (cntB (fun x => !(gdN di x == 0)) 14)))) (tot G a D di ga su ru n)) := by
  refine zj_startF RX4 (by decide +kernel) rfl rfl rfl (bs := [[((a 0), .inr (4, [.ref (a 1), .ref (a 3), .ref (a 5), .ref (a 7), .ref (a 9), .int (nI n)]))], ways G (a 1) (a 2) D, tbl G (a 3) (a 4) 14 (nI 1) (nF di) 0, tbl G (a 5) (a 6) 4 (nI 1) (nF ga) 0, tbl G (a 7) (a 8) 168 (nI 12) (nF su) 0, tbl G (a 9) (a 10) 168 (nI 12) (nF ru) 0]) rfl (lo := [some (.ref (a 0)), none, none]) rfl ?_
  intro p0 e0 s0 m0 args0 below0 meth0 c0 A0 C hr hlocks
  refine zj_iconst (pc := 0) (v := 0) C dX4_gateCount_0 (by decide) ?_
  refine zj_istore_n (pc := 1) C dX4_gateCount_1 (Nat.le_of_ble_eq_true rfl) ?_
  refine zj_iconst (pc := 2) (v := 0) C dX4_gateCount_2 (by decide) ?_
  refine zj_istore_n (pc := 3) C dX4_gateCount_3 (Nat.le_of_ble_eq_true rfl) ?_
  refine zj_keep [true, true, true] ?_
  refine zj_loopW (σ := Nat) (fun x => x ≤ 14) (fun x => 14 - x) (fun x => [[((a 0), .inr (4, [.ref (a 1), .ref (a 3), .ref (a 5), .ref (a 7), .ref (a 9), .int (nI n)]))], ways G (a 1) (a 2) D, tbl G (a 3) (a 4) 14 (nI 1) (nF di) 0, tbl G (a 5) (a 6) 4 (nI 1) (nF ga) 0, tbl G (a 7) (a 8) 168 (nI 12) (nF su) 0, tbl G (a 9) (a 10) 168 (nI 12) (nF ru) 0]) (fun x => [some (.ref (a 0)), some (.int (nI (cntB (fun x => !(gdN di x == 0)) (x)))), some (.int (nI (x)))]) ?_ 0 (Nat.zero_le _)
  intro i hi ih
  refine zj_iload_n (pc := 4) C dX4_gateCount_4 rfl ?_
  refine zj_bipush (pc := 5) (v := 14) C dX4_gateCount_5 (by decide) ?_
  refine zj_icmp_ge (pc := 7) 27 C dX4_gateCount_7 (by decide) (fun c_7 => ?_) (fun c_7 => ?_)
  · refine zj_iload_n (pc := 27) C dX4_gateCount_27 rfl ?_
    refine zj_iretF C hr hlocks dX4_gateCount_28 ?_ rfl
    rw [show i = 14 from Nat.le_antisymm hi (zle c_7 (by omega))]
  · have hlt : i < 14 := zlt c_7 (by omega)
    refine zj_aload_n (pc := 10) C dX4_gateCount_10 rfl ?_
    refine zj_iload_n (pc := 11) C dX4_gateCount_11 rfl ?_
    refine zj_callPA (pc := 12) C kv_X4_150 (m_X4_gateDistrictsOf hlt (hT.2.1 i hlt)) dX4_gateCount_12 [0, 1, 2, 3, 4, 5] [] rfl rfl rfl rfl rfl rfl rfl rfl ⟨0, rfl⟩ rfl rfl ?_
    have hg : gdN di i < 16 := by have := hT.2.1 i hlt; unfold gdN; split <;> omega
    refine zj_if_eq (pc := 15) 21 C dX4_gateCount_15 (by decide) (fun c_15 => ?_) (fun c_15 => ?_)
    · refine zj_iinc (pc := 21) (v := nI (i + 1)) C dX4_gateCount_21 rfl (nI_1 _) ?_
      refine zj_goto (pc := 24) (tgt := 4) C dX4_gateCount_24 (by decide) ?_
      exact zj_loc (lo' := [some (.ref (a 0)), some (.int (nI (cntB (fun x => !(gdN di x == 0)) (i + 1)))), some (.int (nI (i + 1)))]) (by rw [cntB_f (by simpa [nI_z (show gdN di i < 2 ^ 31 by omega)] using c_15)]; rfl) (ih (i + 1) hlt (by omega))
    · refine zj_iinc (pc := 18) (v := nI (cntB (fun x => !(gdN di x == 0)) i + 1)) C dX4_gateCount_18 rfl (nI_1 _) ?_
      refine zj_iinc (pc := 21) (v := nI (i + 1)) C dX4_gateCount_21 rfl (nI_1 _) ?_
      refine zj_goto (pc := 24) (tgt := 4) C dX4_gateCount_24 (by decide) ?_
      exact zj_loc (lo' := [some (.ref (a 0)), some (.int (nI (cntB (fun x => !(gdN di x == 0)) (i + 1)))), some (.int (nI (i + 1)))]) (by rw [cntB_t (by simpa [nI_z (show gdN di i < 2 ^ 31 by omega)] using c_15)]; rfl) (ih (i + 1) hlt (by omega))
set_option maxRecDepth 100000 in
set_option maxHeartbeats 4000000 in
theorem m_X4_crossingsWithTotal {l : Launch} {G : GG} {a : Nat → Nat} {D : Nat → Nat → Nat → Nat} {di ga su ru : Nat → Nat} {n : Nat} {al : Nat} (hT : TBd D di ga su ru) (hal : al < 12) : zX l G yX4_crossingsWithTotal cX4_crossingsWithTotal 4 (some .int) 3 67 0 0 [.ref (a 0), .int (nI al)] (tot G a D di ga su ru n) (zF (some (.int (nI (cntB (fun x => !(ru (x * 12 + al) == 0)) 14)))) (tot G a D di ga su ru n)) := by
  refine zj_startF RX4 (by decide +kernel) rfl rfl rfl (bs := [[((a 0), .inr (4, [.ref (a 1), .ref (a 3), .ref (a 5), .ref (a 7), .ref (a 9), .int (nI n)]))], ways G (a 1) (a 2) D, tbl G (a 3) (a 4) 14 (nI 1) (nF di) 0, tbl G (a 5) (a 6) 4 (nI 1) (nF ga) 0, tbl G (a 7) (a 8) 168 (nI 12) (nF su) 0, tbl G (a 9) (a 10) 168 (nI 12) (nF ru) 0]) rfl (lo := [some (.ref (a 0)), some (.int (nI al)), none, none]) rfl ?_
  intro p0 e0 s0 m0 args0 below0 meth0 c0 A0 C hr hlocks
  refine zj_iconst (pc := 0) (v := 0) C dX4_crossingsWithTotal_0 (by decide) ?_
  refine zj_istore_n (pc := 1) C dX4_crossingsWithTotal_1 (Nat.le_of_ble_eq_true rfl) ?_
  refine zj_iconst (pc := 2) (v := 0) C dX4_crossingsWithTotal_2 (by decide) ?_
  refine zj_istore_n (pc := 3) C dX4_crossingsWithTotal_3 (Nat.le_of_ble_eq_true rfl) ?_
  refine zj_keep [true, true, true, true] ?_
  refine zj_loopW (σ := Nat) (fun x => x ≤ 14) (fun x => 14 - x) (fun x => [[((a 0), .inr (4, [.ref (a 1), .ref (a 3), .ref (a 5), .ref (a 7), .ref (a 9), .int (nI n)]))], ways G (a 1) (a 2) D, tbl G (a 3) (a 4) 14 (nI 1) (nF di) 0, tbl G (a 5) (a 6) 4 (nI 1) (nF ga) 0, tbl G (a 7) (a 8) 168 (nI 12) (nF su) 0, tbl G (a 9) (a 10) 168 (nI 12) (nF ru) 0]) (fun x => [some (.ref (a 0)), some (.int (nI al)), some (.int (nI (cntB (fun x => !(ru (x * 12 + al) == 0)) (x)))), some (.int (nI (x)))]) ?_ 0 (Nat.zero_le _)
  intro i hi ih
  refine zj_iload_n (pc := 4) C dX4_crossingsWithTotal_4 rfl ?_
  refine zj_bipush (pc := 5) (v := 14) C dX4_crossingsWithTotal_5 (by decide) ?_
  refine zj_icmp_ge (pc := 7) 28 C dX4_crossingsWithTotal_7 (by decide) (fun c_7 => ?_) (fun c_7 => ?_)
  · refine zj_iload_n (pc := 28) C dX4_crossingsWithTotal_28 rfl ?_
    refine zj_iretF C hr hlocks dX4_crossingsWithTotal_29 ?_ rfl
    rw [show i = 14 from Nat.le_antisymm hi (zle c_7 (by omega))]
  · have hlt : i < 14 := zlt c_7 (by omega)
    refine zj_aload_n (pc := 10) C dX4_crossingsWithTotal_10 rfl ?_
    refine zj_iload_n (pc := 11) C dX4_crossingsWithTotal_11 rfl ?_
    refine zj_iload_n (pc := 12) C dX4_crossingsWithTotal_12 rfl ?_
    refine zj_callPA (pc := 13) C kv_X4_112 (m_X4_hasTotal hlt hal (hT.2.2.2.2 _ (by omega))) dX4_crossingsWithTotal_13 [0, 1, 2, 3, 4, 5] [] rfl rfl rfl rfl rfl rfl rfl rfl ⟨0, rfl⟩ rfl rfl ?_
    refine zj_ifb_eq (pc := 16) 22 C dX4_crossingsWithTotal_16 (by decide) (fun c_16 => ?_) (fun c_16 => ?_)
    · refine zj_iinc (pc := 22) (v := nI (i + 1)) C dX4_crossingsWithTotal_22 rfl (nI_1 _) ?_
      refine zj_goto (pc := 25) (tgt := 4) C dX4_crossingsWithTotal_25 (by decide) ?_
      exact zj_loc (lo' := [some (.ref (a 0)), some (.int (nI al)), some (.int (nI (cntB (fun x => !(ru (x * 12 + al) == 0)) (i + 1)))), some (.int (nI (i + 1)))]) (by rw [cntB_f (c_16)]; rfl) (ih (i + 1) hlt (by omega))
    · refine zj_iinc (pc := 19) (v := nI (cntB (fun x => !(ru (x * 12 + al) == 0)) i + 1)) C dX4_crossingsWithTotal_19 rfl (nI_1 _) ?_
      refine zj_iinc (pc := 22) (v := nI (i + 1)) C dX4_crossingsWithTotal_22 rfl (nI_1 _) ?_
      refine zj_goto (pc := 25) (tgt := 4) C dX4_crossingsWithTotal_25 (by decide) ?_
      exact zj_loc (lo' := [some (.ref (a 0)), some (.int (nI al)), some (.int (nI (cntB (fun x => !(ru (x * 12 + al) == 0)) (i + 1)))), some (.int (nI (i + 1)))]) (by rw [cntB_t (c_16)]; rfl) (ih (i + 1) hlt (by omega))
set_option maxRecDepth 100000 in
set_option maxHeartbeats 4000000 in
theorem m_X4_alleysWithTotal {l : Launch} {G : GG} {a : Nat → Nat} {D : Nat → Nat → Nat → Nat} {di ga su ru : Nat → Nat} {n : Nat} {y : Nat} (hT : TBd D di ga su ru) (hx : y < 14) (hn : n ≤ 12) : zX l G yX4_alleysWithTotal cX4_alleysWithTotal 4 (some .int) 3 67 0 0 [.ref (a 0), .int (nI y)] (tot G a D di ga su ru n) (zF (some (.int (nI (cntB (fun al => !(ru (y * 12 + al) == 0)) n)))) (tot G a D di ga su ru n)) := by
  refine zj_startF RX4 (by decide +kernel) rfl rfl rfl (bs := [[((a 0), .inr (4, [.ref (a 1), .ref (a 3), .ref (a 5), .ref (a 7), .ref (a 9), .int (nI n)]))], ways G (a 1) (a 2) D, tbl G (a 3) (a 4) 14 (nI 1) (nF di) 0, tbl G (a 5) (a 6) 4 (nI 1) (nF ga) 0, tbl G (a 7) (a 8) 168 (nI 12) (nF su) 0, tbl G (a 9) (a 10) 168 (nI 12) (nF ru) 0]) rfl (lo := [some (.ref (a 0)), some (.int (nI y)), none, none]) rfl ?_
  intro p0 e0 s0 m0 args0 below0 meth0 c0 A0 C hr hlocks
  refine zj_iconst (pc := 0) (v := 0) C dX4_alleysWithTotal_0 (by decide) ?_
  refine zj_istore_n (pc := 1) C dX4_alleysWithTotal_1 (Nat.le_of_ble_eq_true rfl) ?_
  refine zj_iconst (pc := 2) (v := 0) C dX4_alleysWithTotal_2 (by decide) ?_
  refine zj_istore_n (pc := 3) C dX4_alleysWithTotal_3 (Nat.le_of_ble_eq_true rfl) ?_
  refine zj_keep [true, true, true, true] ?_
  refine zj_loopW (σ := Nat) (fun x => x ≤ n) (fun x => n - x) (fun x => [[((a 0), .inr (4, [.ref (a 1), .ref (a 3), .ref (a 5), .ref (a 7), .ref (a 9), .int (nI n)]))], ways G (a 1) (a 2) D, tbl G (a 3) (a 4) 14 (nI 1) (nF di) 0, tbl G (a 5) (a 6) 4 (nI 1) (nF ga) 0, tbl G (a 7) (a 8) 168 (nI 12) (nF su) 0, tbl G (a 9) (a 10) 168 (nI 12) (nF ru) 0]) (fun x => [some (.ref (a 0)), some (.int (nI y)), some (.int (nI (cntB (fun al => !(ru (y * 12 + al) == 0)) (x)))), some (.int (nI (x)))]) ?_ 0 (Nat.zero_le _)
  intro i hi ih
  refine zj_iload_n (pc := 4) C dX4_alleysWithTotal_4 rfl ?_
  refine zj_aload_n (pc := 5) C dX4_alleysWithTotal_5 rfl ?_
  refine gf_X4_5 (pc := 6) C dX4_alleysWithTotal_6 0 rfl ?_
  refine zj_icmp_ge (pc := 9) 30 C dX4_alleysWithTotal_9 (by decide) (fun c_9 => ?_) (fun c_9 => ?_)
  · refine zj_iload_n (pc := 30) C dX4_alleysWithTotal_30 rfl ?_
    refine zj_iretF C hr hlocks dX4_alleysWithTotal_31 ?_ rfl
    rw [show i = n from Nat.le_antisymm hi (zle c_9 (by omega))]
  · have hlt : i < n := zlt c_9 (by omega)
    refine zj_aload_n (pc := 12) C dX4_alleysWithTotal_12 rfl ?_
    refine zj_iload_n (pc := 13) C dX4_alleysWithTotal_13 rfl ?_
    refine zj_iload_n (pc := 14) C dX4_alleysWithTotal_14 rfl ?_
    refine zj_callPA (pc := 15) C kv_X4_112 (m_X4_hasTotal hx (by omega) (hT.2.2.2.2 _ (by omega))) dX4_alleysWithTotal_15 [0, 1, 2, 3, 4, 5] [] rfl rfl rfl rfl rfl rfl rfl rfl ⟨0, rfl⟩ rfl rfl ?_
    refine zj_ifb_eq (pc := 18) 24 C dX4_alleysWithTotal_18 (by decide) (fun c_18 => ?_) (fun c_18 => ?_)
    · refine zj_iinc (pc := 24) (v := nI (i + 1)) C dX4_alleysWithTotal_24 rfl (nI_1 _) ?_
      refine zj_goto (pc := 27) (tgt := 4) C dX4_alleysWithTotal_27 (by decide) ?_
      exact zj_loc (lo' := [some (.ref (a 0)), some (.int (nI y)), some (.int (nI (cntB (fun al => !(ru (y * 12 + al) == 0)) (i + 1)))), some (.int (nI (i + 1)))]) (by rw [cntB_f (c_18)]; rfl) (ih (i + 1) hlt (by omega))
    · refine zj_iinc (pc := 21) (v := nI (cntB (fun al => !(ru (y * 12 + al) == 0)) i + 1)) C dX4_alleysWithTotal_21 rfl (nI_1 _) ?_
      refine zj_iinc (pc := 24) (v := nI (i + 1)) C dX4_alleysWithTotal_24 rfl (nI_1 _) ?_
      refine zj_goto (pc := 27) (tgt := 4) C dX4_alleysWithTotal_27 (by decide) ?_
      exact zj_loc (lo' := [some (.ref (a 0)), some (.int (nI y)), some (.int (nI (cntB (fun al => !(ru (y * 12 + al) == 0)) (i + 1)))), some (.int (nI (i + 1)))]) (by rw [cntB_t (c_18)]; rfl) (ih (i + 1) hlt (by omega))
set_option maxRecDepth 100000 in
set_option maxHeartbeats 4000000 in
theorem m_X4_sumOfTotals {l : Launch} {G : GG} {a : Nat → Nat} {D : Nat → Nat → Nat → Nat} {di ga su ru : Nat → Nat} {n : Nat} {y : Nat} (hT : TBd D di ga su ru) (hx : y < 14) (hn : n ≤ 12) : zX l G yX4_sumOfTotals cX4_sumOfTotals 4 (some .int) 3 67 0 0 [.ref (a 0), .int (nI y)] (tot G a D di ga su ru n) (zF (some (.int (nI (sumB (fun al => !(ru (y * 12 + al) == 0)) (fun al => su (y * 12 + al)) n)))) (tot G a D di ga su ru n)) := by
  refine zj_startF RX4 (by decide +kernel) rfl rfl rfl (bs := [[((a 0), .inr (4, [.ref (a 1), .ref (a 3), .ref (a 5), .ref (a 7), .ref (a 9), .int (nI n)]))], ways G (a 1) (a 2) D, tbl G (a 3) (a 4) 14 (nI 1) (nF di) 0, tbl G (a 5) (a 6) 4 (nI 1) (nF ga) 0, tbl G (a 7) (a 8) 168 (nI 12) (nF su) 0, tbl G (a 9) (a 10) 168 (nI 12) (nF ru) 0]) rfl (lo := [some (.ref (a 0)), some (.int (nI y)), none, none]) rfl ?_
  intro p0 e0 s0 m0 args0 below0 meth0 c0 A0 C hr hlocks
  refine zj_iconst (pc := 0) (v := 0) C dX4_sumOfTotals_0 (by decide) ?_
  refine zj_istore_n (pc := 1) C dX4_sumOfTotals_1 (Nat.le_of_ble_eq_true rfl) ?_
  refine zj_iconst (pc := 2) (v := 0) C dX4_sumOfTotals_2 (by decide) ?_
  refine zj_istore_n (pc := 3) C dX4_sumOfTotals_3 (Nat.le_of_ble_eq_true rfl) ?_
  refine zj_keep [true, true, true, true] ?_
  refine zj_loopW (σ := Nat) (fun x => x ≤ n) (fun x => n - x) (fun x => [[((a 0), .inr (4, [.ref (a 1), .ref (a 3), .ref (a 5), .ref (a 7), .ref (a 9), .int (nI n)]))], ways G (a 1) (a 2) D, tbl G (a 3) (a 4) 14 (nI 1) (nF di) 0, tbl G (a 5) (a 6) 4 (nI 1) (nF ga) 0, tbl G (a 7) (a 8) 168 (nI 12) (nF su) 0, tbl G (a 9) (a 10) 168 (nI 12) (nF ru) 0]) (fun x => [some (.ref (a 0)), some (.int (nI y)), some (.int (nI (sumB (fun al => !(ru (y * 12 + al) == 0)) (fun al => su (y * 12 + al)) (x)))), some (.int (nI (x)))]) ?_ 0 (Nat.zero_le _)
  intro i hi ih
  refine zj_iload_n (pc := 4) C dX4_sumOfTotals_4 rfl ?_
  refine zj_aload_n (pc := 5) C dX4_sumOfTotals_5 rfl ?_
  refine gf_X4_5 (pc := 6) C dX4_sumOfTotals_6 0 rfl ?_
  refine zj_icmp_ge (pc := 9) 36 C dX4_sumOfTotals_9 (by decide) (fun c_9 => ?_) (fun c_9 => ?_)
  · refine zj_iload_n (pc := 36) C dX4_sumOfTotals_36 rfl ?_
    refine zj_iretF C hr hlocks dX4_sumOfTotals_37 ?_ rfl
    rw [show i = n from Nat.le_antisymm hi (zle c_9 (by omega))]
  · have hlt : i < n := zlt c_9 (by omega)
    refine zj_aload_n (pc := 12) C dX4_sumOfTotals_12 rfl ?_
    refine zj_iload_n (pc := 13) C dX4_sumOfTotals_13 rfl ?_
    refine zj_iload_n (pc := 14) C dX4_sumOfTotals_14 rfl ?_
    refine zj_callPA (pc := 15) C kv_X4_112 (m_X4_hasTotal hx (by omega) (hT.2.2.2.2 _ (by omega))) dX4_sumOfTotals_15 [0, 1, 2, 3, 4, 5] [] rfl rfl rfl rfl rfl rfl rfl rfl ⟨0, rfl⟩ rfl rfl ?_
    refine zj_ifb_eq (pc := 18) 30 C dX4_sumOfTotals_18 (by decide) (fun c_18 => ?_) (fun c_18 => ?_)
    · refine zj_iinc (pc := 30) (v := nI (i + 1)) C dX4_sumOfTotals_30 rfl (nI_1 _) ?_
      refine zj_goto (pc := 33) (tgt := 4) C dX4_sumOfTotals_33 (by decide) ?_
      exact zj_loc (lo' := [some (.ref (a 0)), some (.int (nI y)), some (.int (nI (sumB (fun al => !(ru (y * 12 + al) == 0)) (fun al => su (y * 12 + al)) (i + 1)))), some (.int (nI (i + 1)))]) (by rw [sumB_f (p := fun al => !(ru (y * 12 + al) == 0)) c_18]; rfl) (ih (i + 1) hlt (by omega))
    · refine zj_iload_n (pc := 21) C dX4_sumOfTotals_21 rfl ?_
      refine zj_aload_n (pc := 22) C dX4_sumOfTotals_22 rfl ?_
      refine zj_iload_n (pc := 23) C dX4_sumOfTotals_23 rfl ?_
      refine zj_iload_n (pc := 24) C dX4_sumOfTotals_24 rfl ?_
      refine zj_callPA (pc := 25) C kv_X4_123 (m_X4_sumFor hx (by omega)) dX4_sumOfTotals_25 [0, 1, 2, 3, 4, 5] [] rfl rfl rfl rfl rfl rfl rfl rfl ⟨0, rfl⟩ rfl rfl ?_
      refine zj_iadd (pc := 28) C dX4_sumOfTotals_28 ?_
      refine zj_istore_n (pc := 29) C dX4_sumOfTotals_29 (Nat.le_of_ble_eq_true rfl) ?_
      refine zj_iinc (pc := 30) (v := nI (i + 1)) C dX4_sumOfTotals_30 rfl (nI_1 _) ?_
      refine zj_goto (pc := 33) (tgt := 4) C dX4_sumOfTotals_33 (by decide) ?_
      exact zj_loc (lo' := [some (.ref (a 0)), some (.int (nI y)), some (.int (nI (sumB (fun al => !(ru (y * 12 + al) == 0)) (fun al => su (y * 12 + al)) (i + 1)))), some (.int (nI (i + 1)))]) (by rw [sumB_t (p := fun al => !(ru (y * 12 + al) == 0)) c_18]; exact congrArg (fun q => [some (Value.ref (a 0)), some (.int (nI y)), some (.int q), some (.int (nI (i + 1)))]) (nI_add _ _)) (ih (i + 1) hlt (by omega))
