set_option maxRecDepth 100000 in
set_option maxHeartbeats 4000000 in
theorem m_X1_rankOf {l : Launch} {G : GG} {a : Nat → Nat} {P : PC} {g : Nat → Nat} {x : Nat} (hP : PR g P) (hx : x < 14) : zX l G yX1_rankOf cX1_rankOf 2 (some .int) 1 23 0 0 [.ref (a 0), .int (nI x)] (plan G a P) (zF (some (.int (nI (g x)))) (plan G a P)) := by
  refine zj_startF RX1 (by decide +kernel) rfl rfl rfl (bs := [[((a 0), .inr (1, [.ref (a 1), .ref (a 3), .ref (a 5)]))], tbl G (a 1) (a 2) 14 (nI 1) P.1 0, tbl G (a 3) (a 4) 120 (nI 5) P.2.1 P.2.2.1, tbl G (a 5) (a 6) 36 (nI 3) P.2.2.2.1 P.2.2.2.2]) rfl (lo := [some (.ref (a 0)), some (.int (nI x))]) rfl ?_
  intro p0 e0 s0 m0 args0 below0 meth0 c0 A0 C hr hlocks
  refine zj_aload_n (pc := 0) C dX1_rankOf_0 rfl ?_
  refine gf_X1_0 (pc := 1) C dX1_rankOf_1 0 rfl ?_
  refine zj_iload_n (pc := 4) C dX1_rankOf_4 rfl ?_
  refine zj_iconst (pc := 5) (v := 0) C dX1_rankOf_5 (by decide) ?_
  refine zj_callP1 (pc := 6) C kv_X1_34 (m_X2_at (by decide)) dX1_rankOf_6 1 rfl rfl rfl rfl rfl rfl rfl ⟨0, rfl⟩ rfl rfl ?_
  refine zj_iretF C hr hlocks dX1_rankOf_9 ?_ rfl
  exact P_rank hP hx
set_option maxRecDepth 100000 in
set_option maxHeartbeats 4000000 in
theorem m_X1_setRank {l : Launch} {G : GG} {a : Nat → Nat} {P : PC} {x : Nat} {v : Int32} (hx : x < 14) : zX l G yX1_setRank cX1_setRank 3 none 1 24 0 0 [.ref (a 0), .int (nI x), .int v] (plan G a P) (zF none (plan G a (upd P.1 x v, P.2.1, P.2.2.1, P.2.2.2.1, P.2.2.2.2))) := by
  refine zj_startF RX1 (by decide +kernel) rfl rfl rfl (bs := [[((a 0), .inr (1, [.ref (a 1), .ref (a 3), .ref (a 5)]))], tbl G (a 1) (a 2) 14 (nI 1) P.1 0, tbl G (a 3) (a 4) 120 (nI 5) P.2.1 P.2.2.1, tbl G (a 5) (a 6) 36 (nI 3) P.2.2.2.1 P.2.2.2.2]) rfl (lo := [some (.ref (a 0)), some (.int (nI x)), some (.int v)]) rfl ?_
  intro p0 e0 s0 m0 args0 below0 meth0 c0 A0 C hr hlocks
  refine zj_aload_n (pc := 0) C dX1_setRank_0 rfl ?_
  refine gf_X1_0 (pc := 1) C dX1_setRank_1 0 rfl ?_
  refine zj_iload_n (pc := 4) C dX1_setRank_4 rfl ?_
  refine zj_iconst (pc := 5) (v := 0) C dX1_setRank_5 (by decide) ?_
  refine zj_iload_n (pc := 6) C dX1_setRank_6 rfl ?_
  refine zj_callF1n (pc := 7) C kv_X1_26 (m_X2_put (by decide)) dX1_setRank_7 1 rfl rfl rfl rfl rfl rfl rfl ⟨0, rfl⟩ rfl rfl ?_
  refine zj_vretF C hr hlocks dX1_setRank_10 ?_
  (have e0 : tPut 14 (nI 1) P.1 (nI x) 0 v = upd P.1 x v := by
    have := tPut_n (n := 14) (cn := 1) (i := x) (j := 0) (f := P.1) (v := v) (by omega) (by decide)
    rw [show x * 1 + 0 = x by omega] at this
    exact this)
  rw [← e0]
  first | done | rfl
set_option maxRecDepth 100000 in
set_option maxHeartbeats 4000000 in
theorem m_X1_hasLane {l : Launch} {G : GG} {a : Nat → Nat} {P : PC} {g : Nat → Nat} {x : Int32} (hP : PR g P) : zX l G yX1_hasLane cX1_hasLane 2 (some .boolean) 1 21 0 0 [.ref (a 0), .int x] (plan G a P) (zF (some (.int (bI (tHas (nI (kL g)) x)))) (plan G a P)) := by
  refine zj_startF RX1 (by decide +kernel) rfl rfl rfl (bs := [[((a 0), .inr (1, [.ref (a 1), .ref (a 3), .ref (a 5)]))], tbl G (a 1) (a 2) 14 (nI 1) P.1 0, tbl G (a 3) (a 4) 120 (nI 5) P.2.1 P.2.2.1, tbl G (a 5) (a 6) 36 (nI 3) P.2.2.2.1 P.2.2.2.2]) rfl (lo := [some (.ref (a 0)), some (.int x)]) rfl ?_
  intro p0 e0 s0 m0 args0 below0 meth0 c0 A0 C hr hlocks
  refine zj_aload_n (pc := 0) C dX1_hasLane_0 rfl ?_
  refine gf_X1_1 (pc := 1) C dX1_hasLane_1 0 rfl ?_
  refine zj_iload_n (pc := 4) C dX1_hasLane_4 rfl ?_
  refine zj_callP1 (pc := 5) C kv_X1_38 (m_X2_has) dX1_hasLane_5 2 rfl rfl rfl rfl rfl rfl rfl ⟨0, rfl⟩ rfl rfl ?_
  refine zj_zretF C hr hlocks dX1_hasLane_8 ?_ rfl
  exact congrArg (fun q => bI (tHas q x)) hP.2.2.1
set_option maxRecDepth 100000 in
set_option maxHeartbeats 4000000 in
theorem m_X1_laneCount {l : Launch} {G : GG} {a : Nat → Nat} {P : PC} {g : Nat → Nat} (hP : PR g P) : zX l G yX1_laneCount cX1_laneCount 1 (some .int) 1 20 0 0 [.ref (a 0)] (plan G a P) (zF (some (.int (nI (kL g)))) (plan G a P)) := by
  refine zj_startF RX1 (by decide +kernel) rfl rfl rfl (bs := [[((a 0), .inr (1, [.ref (a 1), .ref (a 3), .ref (a 5)]))], tbl G (a 1) (a 2) 14 (nI 1) P.1 0, tbl G (a 3) (a 4) 120 (nI 5) P.2.1 P.2.2.1, tbl G (a 5) (a 6) 36 (nI 3) P.2.2.2.1 P.2.2.2.2]) rfl (lo := [some (.ref (a 0))]) rfl ?_
  intro p0 e0 s0 m0 args0 below0 meth0 c0 A0 C hr hlocks
  refine zj_aload_n (pc := 0) C dX1_laneCount_0 rfl ?_
  refine gf_X1_1 (pc := 1) C dX1_laneCount_1 0 rfl ?_
  refine zj_callP1 (pc := 4) C kv_X1_42 (m_X2_size) dX1_laneCount_4 2 rfl rfl rfl rfl rfl rfl rfl ⟨0, rfl⟩ rfl rfl ?_
  refine zj_iretF C hr hlocks dX1_laneCount_7 ?_ rfl
  exact hP.2.2.1
set_option maxRecDepth 100000 in
set_option maxHeartbeats 4000000 in
theorem m_X1_laneCell {l : Launch} {G : GG} {a : Nat → Nat} {P : PC} {g : Nat → Nat} {i c : Nat} (hP : PR g P) (hv : Vg g) (hi : i < kL g) (hc : c < 5) : zX l G yX1_laneCell cX1_laneCell 3 (some .int) 1 23 0 0 [.ref (a 0), .int (nI i), .int (nI c)] (plan G a P) (zF (some (.int (nI (lnC g i c)))) (plan G a P)) := by
  refine zj_startF RX1 (by decide +kernel) rfl rfl rfl (bs := [[((a 0), .inr (1, [.ref (a 1), .ref (a 3), .ref (a 5)]))], tbl G (a 1) (a 2) 14 (nI 1) P.1 0, tbl G (a 3) (a 4) 120 (nI 5) P.2.1 P.2.2.1, tbl G (a 5) (a 6) 36 (nI 3) P.2.2.2.1 P.2.2.2.2]) rfl (lo := [some (.ref (a 0)), some (.int (nI i)), some (.int (nI c))]) rfl ?_
  intro p0 e0 s0 m0 args0 below0 meth0 c0 A0 C hr hlocks
  refine zj_aload_n (pc := 0) C dX1_laneCell_0 rfl ?_
  refine gf_X1_1 (pc := 1) C dX1_laneCell_1 0 rfl ?_
  refine zj_iload_n (pc := 4) C dX1_laneCell_4 rfl ?_
  refine zj_iload_n (pc := 5) C dX1_laneCell_5 rfl ?_
  refine zj_callP1 (pc := 6) C kv_X1_34 (m_X2_at (by decide)) dX1_laneCell_6 2 rfl rfl rfl rfl rfl rfl rfl ⟨0, rfl⟩ rfl rfl ?_
  refine zj_iretF C hr hlocks dX1_laneCell_9 ?_ rfl
  exact P_lane hP hv hi hc
set_option maxRecDepth 100000 in
set_option maxHeartbeats 4000000 in
theorem m_X1_alleyCount {l : Launch} {G : GG} {a : Nat → Nat} {P : PC} {g : Nat → Nat} (hP : PR g P) : zX l G yX1_alleyCount cX1_alleyCount 1 (some .int) 1 20 0 0 [.ref (a 0)] (plan G a P) (zF (some (.int (nI (kA g)))) (plan G a P)) := by
  refine zj_startF RX1 (by decide +kernel) rfl rfl rfl (bs := [[((a 0), .inr (1, [.ref (a 1), .ref (a 3), .ref (a 5)]))], tbl G (a 1) (a 2) 14 (nI 1) P.1 0, tbl G (a 3) (a 4) 120 (nI 5) P.2.1 P.2.2.1, tbl G (a 5) (a 6) 36 (nI 3) P.2.2.2.1 P.2.2.2.2]) rfl (lo := [some (.ref (a 0))]) rfl ?_
  intro p0 e0 s0 m0 args0 below0 meth0 c0 A0 C hr hlocks
  refine zj_aload_n (pc := 0) C dX1_alleyCount_0 rfl ?_
  refine gf_X1_2 (pc := 1) C dX1_alleyCount_1 0 rfl ?_
  refine zj_callP1 (pc := 4) C kv_X1_42 (m_X2_size) dX1_alleyCount_4 3 rfl rfl rfl rfl rfl rfl rfl ⟨0, rfl⟩ rfl rfl ?_
  refine zj_iretF C hr hlocks dX1_alleyCount_7 ?_ rfl
  exact hP.2.2.2.2
set_option maxRecDepth 100000 in
set_option maxHeartbeats 4000000 in
theorem m_X1_hasAlley {l : Launch} {G : GG} {a : Nat → Nat} {P : PC} {g : Nat → Nat} {x : Int32} (hP : PR g P) : zX l G yX1_hasAlley cX1_hasAlley 2 (some .boolean) 1 21 0 0 [.ref (a 0), .int x] (plan G a P) (zF (some (.int (bI (tHas (nI (kA g)) x)))) (plan G a P)) := by
  refine zj_startF RX1 (by decide +kernel) rfl rfl rfl (bs := [[((a 0), .inr (1, [.ref (a 1), .ref (a 3), .ref (a 5)]))], tbl G (a 1) (a 2) 14 (nI 1) P.1 0, tbl G (a 3) (a 4) 120 (nI 5) P.2.1 P.2.2.1, tbl G (a 5) (a 6) 36 (nI 3) P.2.2.2.1 P.2.2.2.2]) rfl (lo := [some (.ref (a 0)), some (.int x)]) rfl ?_
  intro p0 e0 s0 m0 args0 below0 meth0 c0 A0 C hr hlocks
  refine zj_aload_n (pc := 0) C dX1_hasAlley_0 rfl ?_
  refine gf_X1_2 (pc := 1) C dX1_hasAlley_1 0 rfl ?_
  refine zj_iload_n (pc := 4) C dX1_hasAlley_4 rfl ?_
  refine zj_callP1 (pc := 5) C kv_X1_38 (m_X2_has) dX1_hasAlley_5 3 rfl rfl rfl rfl rfl rfl rfl ⟨0, rfl⟩ rfl rfl ?_
  refine zj_zretF C hr hlocks dX1_hasAlley_8 ?_ rfl
  exact congrArg (fun q => bI (tHas q x)) hP.2.2.2.2
set_option maxRecDepth 100000 in
set_option maxHeartbeats 4000000 in
theorem m_X1_alleyCell {l : Launch} {G : GG} {a : Nat → Nat} {P : PC} {g : Nat → Nat} {i c : Nat} (hP : PR g P) (hv : Vg g) (hi : i < kA g) (hc : c < 3) : zX l G yX1_alleyCell cX1_alleyCell 3 (some .int) 1 23 0 0 [.ref (a 0), .int (nI i), .int (nI c)] (plan G a P) (zF (some (.int (nI (alC g i c)))) (plan G a P)) := by
  refine zj_startF RX1 (by decide +kernel) rfl rfl rfl (bs := [[((a 0), .inr (1, [.ref (a 1), .ref (a 3), .ref (a 5)]))], tbl G (a 1) (a 2) 14 (nI 1) P.1 0, tbl G (a 3) (a 4) 120 (nI 5) P.2.1 P.2.2.1, tbl G (a 5) (a 6) 36 (nI 3) P.2.2.2.1 P.2.2.2.2]) rfl (lo := [some (.ref (a 0)), some (.int (nI i)), some (.int (nI c))]) rfl ?_
  intro p0 e0 s0 m0 args0 below0 meth0 c0 A0 C hr hlocks
  refine zj_aload_n (pc := 0) C dX1_alleyCell_0 rfl ?_
  refine gf_X1_2 (pc := 1) C dX1_alleyCell_1 0 rfl ?_
  refine zj_iload_n (pc := 4) C dX1_alleyCell_4 rfl ?_
  refine zj_iload_n (pc := 5) C dX1_alleyCell_5 rfl ?_
  refine zj_callP1 (pc := 6) C kv_X1_34 (m_X2_at (by decide)) dX1_alleyCell_6 3 rfl rfl rfl rfl rfl rfl rfl ⟨0, rfl⟩ rfl rfl ?_
  refine zj_iretF C hr hlocks dX1_alleyCell_9 ?_ rfl
  exact P_alley hP hv hi hc
set_option maxRecDepth 100000 in
set_option maxHeartbeats 4000000 in
theorem m_X1_isClosed {l : Launch} {G : GG} {a : Nat → Nat} {P : PC} {g : Nat → Nat} {i : Nat} (hP : PR g P) (hv : Vg g) (hi : i < kL g) : zX l G yX1_isClosed cX1_isClosed 2 (some .boolean) 1 23 0 0 [.ref (a 0), .int (nI i)] (plan G a P) (zF (some (.int (bI (!(lnC g i 4 == 0))))) (plan G a P)) := by
  refine zj_startF RX1 (by decide +kernel) rfl rfl rfl (bs := [[((a 0), .inr (1, [.ref (a 1), .ref (a 3), .ref (a 5)]))], tbl G (a 1) (a 2) 14 (nI 1) P.1 0, tbl G (a 3) (a 4) 120 (nI 5) P.2.1 P.2.2.1, tbl G (a 5) (a 6) 36 (nI 3) P.2.2.2.1 P.2.2.2.2]) rfl (lo := [some (.ref (a 0)), some (.int (nI i))]) rfl ?_
  intro p0 e0 s0 m0 args0 below0 meth0 c0 A0 C hr hlocks
  refine zj_aload_n (pc := 0) C dX1_isClosed_0 rfl ?_
  refine gf_X1_1 (pc := 1) C dX1_isClosed_1 0 rfl ?_
  refine zj_iload_n (pc := 4) C dX1_isClosed_4 rfl ?_
  refine zj_iconst (pc := 5) (v := 4) C dX1_isClosed_5 (by decide) ?_
  refine zj_callP1 (pc := 6) C kv_X1_34 (m_X2_at (by decide)) dX1_isClosed_6 2 rfl rfl rfl rfl rfl rfl rfl ⟨0, rfl⟩ rfl rfl ?_
  refine zj_top (x' := nI (lnC g i 4)) (P_lane hP hv hi (by decide)) ?_
  refine zm_if_eq_0 (pc := 9) C dX1_isClosed_9 dX1_isClosed_12 dX1_isClosed_13 dX1_isClosed_16 ?_
  refine zj_zretF C hr hlocks dX1_isClosed_17 ?_ rfl
  simp [nI_z (show lnC g i 4 < 2 ^ 31 by have := V_cell hv hi (c := 4) (by decide); omega), bI]
set_option maxRecDepth 100000 in
set_option maxHeartbeats 4000000 in
theorem m_X1_setClosed {l : Launch} {G : GG} {a : Nat → Nat} {P : PC} {i : Nat} {b : Bool} (hi : i < 24) : zX l G yX1_setClosed cX1_setClosed 3 none 1 24 0 0 [.ref (a 0), .int (nI i), .int (bI b)] (plan G a P) (zF none (plan G a (P.1, upd P.2.1 (i * 5 + 4) (bI b), P.2.2.1, P.2.2.2.1, P.2.2.2.2))) := by
  refine zj_startF RX1 (by decide +kernel) rfl rfl rfl (bs := [[((a 0), .inr (1, [.ref (a 1), .ref (a 3), .ref (a 5)]))], tbl G (a 1) (a 2) 14 (nI 1) P.1 0, tbl G (a 3) (a 4) 120 (nI 5) P.2.1 P.2.2.1, tbl G (a 5) (a 6) 36 (nI 3) P.2.2.2.1 P.2.2.2.2]) rfl (lo := [some (.ref (a 0)), some (.int (nI i)), some (.int (bI b))]) rfl ?_
  intro p0 e0 s0 m0 args0 below0 meth0 c0 A0 C hr hlocks
  refine zj_aload_n (pc := 0) C dX1_setClosed_0 rfl ?_
  refine gf_X1_1 (pc := 1) C dX1_setClosed_1 0 rfl ?_
  refine zj_iload_n (pc := 4) C dX1_setClosed_4 rfl ?_
  refine zj_iconst (pc := 5) (v := 4) C dX1_setClosed_5 (by decide) ?_
  refine zj_iload_n (pc := 6) C dX1_setClosed_6 rfl ?_
  refine zm_ifb_eq_0 (pc := 7) C dX1_setClosed_7 dX1_setClosed_10 dX1_setClosed_11 dX1_setClosed_14 ?_
  refine zj_callF1n (pc := 15) C kv_X1_26 (m_X2_put (by decide)) dX1_setClosed_15 2 rfl rfl rfl rfl rfl rfl rfl ⟨0, rfl⟩ rfl rfl ?_
  refine zj_vretF C hr hlocks dX1_setClosed_18 ?_
  rw [show tPut 120 (nI 5) P.2.1 (nI i) 4 (bI (!(!b))) = upd P.2.1 (i * 5 + 4) (bI b) from (by rw [Bool.not_not]; exact tPut_n (j := 4) (by omega) (by decide))]
  exact rfl
set_option maxRecDepth 100000 in
set_option maxHeartbeats 4000000 in
theorem m_X1_clerkBetween {l : Launch} {G : GG} {a : Nat → Nat} {P : PC} {g : Nat → Nat} {x y : Nat} (hP : PR g P) (hv : Vg g) (hx : x < 14) (hy : y < 14) : zX l G yX1_clerkBetween cX1_clerkBetween 5 (some .int) 1 23 0 0 [.ref (a 0), .int (nI x), .int (nI y)] (plan G a P) (zF (some (.int (clkB g x y))) (plan G a P)) := by
  refine zj_startF RX1 (by decide +kernel) rfl rfl rfl (bs := [[((a 0), .inr (1, [.ref (a 1), .ref (a 3), .ref (a 5)]))], tbl G (a 1) (a 2) 14 (nI 1) P.1 0, tbl G (a 3) (a 4) 120 (nI 5) P.2.1 P.2.2.1, tbl G (a 5) (a 6) 36 (nI 3) P.2.2.2.1 P.2.2.2.2]) rfl (lo := [some (.ref (a 0)), some (.int (nI x)), some (.int (nI y)), none, none]) rfl ?_
  intro p0 e0 s0 m0 args0 below0 meth0 c0 A0 C hr hlocks
  have hx9 := hv.2.2.1 x hx
  have hy9 := hv.2.2.1 y hy
  refine zj_aload_n (pc := 0) C dX1_clerkBetween_0 rfl ?_
  refine gf_X1_0 (pc := 1) C dX1_clerkBetween_1 0 rfl ?_
  refine zj_iload_n (pc := 4) C dX1_clerkBetween_4 rfl ?_
  refine zj_iconst (pc := 5) (v := 0) C dX1_clerkBetween_5 (by decide) ?_
  refine zj_callP1 (pc := 6) C kv_X1_34 (m_X2_at (by decide)) dX1_clerkBetween_6 1 rfl rfl rfl rfl rfl rfl rfl ⟨0, rfl⟩ rfl rfl ?_
  refine zj_top (x' := nI (g x)) (P_rank hP hx) ?_
  refine zj_istore_n (pc := 9) C dX1_clerkBetween_9 (Nat.le_of_ble_eq_true rfl) ?_
  refine zj_aload_n (pc := 10) C dX1_clerkBetween_10 rfl ?_
  refine gf_X1_0 (pc := 11) C dX1_clerkBetween_11 0 rfl ?_
  refine zj_iload_n (pc := 14) C dX1_clerkBetween_14 rfl ?_
  refine zj_iconst (pc := 15) (v := 0) C dX1_clerkBetween_15 (by decide) ?_
  refine zj_callP1 (pc := 16) C kv_X1_34 (m_X2_at (by decide)) dX1_clerkBetween_16 1 rfl rfl rfl rfl rfl rfl rfl ⟨0, rfl⟩ rfl rfl ?_
  refine zj_top (x' := nI (g y)) (P_rank hP hy) ?_
  refine zj_istore (pc := 19) C dX1_clerkBetween_19 (Nat.le_of_ble_eq_true rfl) ?_
  refine zj_iload_n (pc := 21) C dX1_clerkBetween_21 rfl ?_
  refine zj_if_ne (pc := 22) 33 C dX1_clerkBetween_22 (by decide) (fun c_22 => ?_) (fun c_22 => ?_)
  · refine zj_iload_n (pc := 33) C dX1_clerkBetween_33 rfl ?_
    refine zj_iload (pc := 34) C dX1_clerkBetween_34 rfl ?_
    refine zj_icmp_ne (pc := 36) 45 C dX1_clerkBetween_36 (by decide) (fun c_36 => ?_) (fun c_36 => ?_)
    · refine zj_iload_n (pc := 45) C dX1_clerkBetween_45 rfl ?_
      refine zj_iload (pc := 46) C dX1_clerkBetween_46 rfl ?_
      refine zj_icmp_le (pc := 48) 55 C dX1_clerkBetween_48 (by decide) (fun c_48 => ?_) (fun c_48 => ?_)
      · refine zj_iload_n (pc := 55) C dX1_clerkBetween_55 rfl ?_
        refine zj_iretF C hr hlocks dX1_clerkBetween_56 ?_ rfl
        rw [nI_z (by omega)] at c_22
        rw [nI_eq (by omega) (by omega)] at c_36
        rw [nI_leI (by omega) (by omega)] at c_48
        rw [clkB, if_pos (hasB_t (by omega))]
        exact congrArg nI (by unfold ckB; (repeat' split) <;> omega)
      · refine zj_iload_n (pc := 51) C dX1_clerkBetween_51 rfl ?_
        refine zj_goto (pc := 52) (tgt := 56) C dX1_clerkBetween_52 (by decide) ?_
        refine zj_iretF C hr hlocks dX1_clerkBetween_56 ?_ rfl
        rw [nI_z (by omega)] at c_22
        rw [nI_eq (by omega) (by omega)] at c_36
        rw [nI_leI (by omega) (by omega)] at c_48
        rw [clkB, if_pos (hasB_t (by omega))]
        exact congrArg nI (by unfold ckB; (repeat' split) <;> omega)
    · refine zj_iload_n (pc := 39) C dX1_clerkBetween_39 rfl ?_
      refine zj_iload_n (pc := 40) C dX1_clerkBetween_40 rfl ?_
      refine zj_mmax (pc := 41) C aq_261 aq_56 aq_29 aq_57 dX1_clerkBetween_41 (zn_and rfl) (Nat.le_of_ble_eq_true rfl) (zn_and rfl) rfl ?_
      refine zj_iretF C hr hlocks dX1_clerkBetween_44 ?_ rfl
      rw [nI_z (by omega)] at c_22
      rw [nI_eq (by omega) (by omega)] at c_36
      rw [nI_max (by omega) (by omega)]
      rw [clkB, if_pos (hasB_t (by omega))]
      exact congrArg nI (by unfold ckB; (repeat' split) <;> omega)
  · refine zj_iload (pc := 25) C dX1_clerkBetween_25 rfl ?_
    refine zj_if_ne (pc := 27) 33 C dX1_clerkBetween_27 (by decide) (fun c_27 => ?_) (fun c_27 => ?_)
    · refine zj_iload_n (pc := 33) C dX1_clerkBetween_33 rfl ?_
      refine zj_iload (pc := 34) C dX1_clerkBetween_34 rfl ?_
      refine zj_icmp_ne (pc := 36) 45 C dX1_clerkBetween_36 (by decide) (fun c_36 => ?_) (fun c_36 => ?_)
      · refine zj_iload_n (pc := 45) C dX1_clerkBetween_45 rfl ?_
        refine zj_iload (pc := 46) C dX1_clerkBetween_46 rfl ?_
        refine zj_icmp_le (pc := 48) 55 C dX1_clerkBetween_48 (by decide) (fun c_48 => ?_) (fun c_48 => ?_)
        · refine zj_iload_n (pc := 55) C dX1_clerkBetween_55 rfl ?_
          refine zj_iretF C hr hlocks dX1_clerkBetween_56 ?_ rfl
          rw [nI_z (by omega)] at c_22
          rw [nI_z (by omega)] at c_27
          rw [nI_eq (by omega) (by omega)] at c_36
          rw [nI_leI (by omega) (by omega)] at c_48
          rw [clkB, if_pos (hasB_t (by omega))]
          exact congrArg nI (by unfold ckB; (repeat' split) <;> omega)
        · refine zj_iload_n (pc := 51) C dX1_clerkBetween_51 rfl ?_
          refine zj_goto (pc := 52) (tgt := 56) C dX1_clerkBetween_52 (by decide) ?_
          refine zj_iretF C hr hlocks dX1_clerkBetween_56 ?_ rfl
          rw [nI_z (by omega)] at c_22
          rw [nI_z (by omega)] at c_27
          rw [nI_eq (by omega) (by omega)] at c_36
          rw [nI_leI (by omega) (by omega)] at c_48
          rw [clkB, if_pos (hasB_t (by omega))]
          exact congrArg nI (by unfold ckB; (repeat' split) <;> omega)
      · refine zj_iload_n (pc := 39) C dX1_clerkBetween_39 rfl ?_
        refine zj_iload_n (pc := 40) C dX1_clerkBetween_40 rfl ?_
        refine zj_mmax (pc := 41) C aq_261 aq_56 aq_29 aq_57 dX1_clerkBetween_41 (zn_and rfl) (Nat.le_of_ble_eq_true rfl) (zn_and rfl) rfl ?_
        refine zj_iretF C hr hlocks dX1_clerkBetween_44 ?_ rfl
        rw [nI_z (by omega)] at c_22
        rw [nI_z (by omega)] at c_27
        rw [nI_eq (by omega) (by omega)] at c_36
        rw [nI_max (by omega) (by omega)]
        rw [clkB, if_pos (hasB_t (by omega))]
        exact congrArg nI (by unfold ckB; (repeat' split) <;> omega)
    · refine zj_bipush (pc := 30) (v := (-5)) C dX1_clerkBetween_30 (by decide) ?_
      refine zj_iretF C hr hlocks dX1_clerkBetween_32 ?_ rfl
      rw [nI_z (by omega)] at c_22
      rw [nI_z (by omega)] at c_27
      rw [clkB, hasB_f c_22 c_27]
      exact rfl
set_option maxRecDepth 100000 in
set_option maxHeartbeats 4000000 in
theorem m_X1_clerkOf {l : Launch} {G : GG} {a : Nat → Nat} {P : PC} {g : Nat → Nat} {i : Nat} (hP : PR g P) (hv : Vg g) (hi : i < kL g) : zX l G yX1_clerkOf cX1_clerkOf 2 (some .int) 2 47 0 0 [.ref (a 0), .int (nI i)] (plan G a P) (zF (some (.int (clkI g i))) (plan G a P)) := by
  refine zj_startF RX1 (by decide +kernel) rfl rfl rfl (bs := [[((a 0), .inr (1, [.ref (a 1), .ref (a 3), .ref (a 5)]))], tbl G (a 1) (a 2) 14 (nI 1) P.1 0, tbl G (a 3) (a 4) 120 (nI 5) P.2.1 P.2.2.1, tbl G (a 5) (a 6) 36 (nI 3) P.2.2.2.1 P.2.2.2.2]) rfl (lo := [some (.ref (a 0)), some (.int (nI i))]) rfl ?_
  intro p0 e0 s0 m0 args0 below0 meth0 c0 A0 C hr hlocks
  refine zj_aload_n (pc := 0) C dX1_clerkOf_0 rfl ?_
  refine zj_aload_n (pc := 1) C dX1_clerkOf_1 rfl ?_
  refine gf_X1_1 (pc := 2) C dX1_clerkOf_2 0 rfl ?_
  refine zj_iload_n (pc := 5) C dX1_clerkOf_5 rfl ?_
  refine zj_iconst (pc := 6) (v := 0) C dX1_clerkOf_6 (by decide) ?_
  refine zj_callP1 (pc := 7) C kv_X1_34 (m_X2_at (by decide)) dX1_clerkOf_7 2 rfl rfl rfl rfl rfl rfl rfl ⟨0, rfl⟩ rfl rfl ?_
  refine zj_top (x' := nI (lnC g i 0)) (P_lane hP hv hi (by decide)) ?_
  refine zj_aload_n (pc := 10) C dX1_clerkOf_10 rfl ?_
  refine gf_X1_1 (pc := 11) C dX1_clerkOf_11 0 rfl ?_
  refine zj_iload_n (pc := 14) C dX1_clerkOf_14 rfl ?_
  refine zj_iconst (pc := 15) (v := 1) C dX1_clerkOf_15 (by decide) ?_
  refine zj_callP1 (pc := 16) C kv_X1_34 (m_X2_at (by decide)) dX1_clerkOf_16 2 rfl rfl rfl rfl rfl rfl rfl ⟨0, rfl⟩ rfl rfl ?_
  refine zj_top (x' := nI (lnC g i 1)) (P_lane hP hv hi (by decide)) ?_
  refine zj_callPA (pc := 19) C kv_X1_62 (m_X1_clerkBetween hP hv (hv.2.2.2.1 i hi).1 (hv.2.2.2.1 i hi).2.1) dX1_clerkOf_19 [0, 1, 2, 3] [] rfl rfl rfl rfl rfl rfl rfl rfl ⟨0, rfl⟩ rfl rfl ?_
  refine zj_iretF C hr hlocks dX1_clerkOf_22 ?_ rfl
  exact rfl
theorem clkI_5 {g : Nat → Nat} (hv : Vg g) {i : Nat} (hi : i < kL g) : clkI g i = -5 ↔ hasCk g i = false := clkB_5 (hv.2.2.2.1 i hi).1 (hv.2.2.2.1 i hi).2.1
theorem clkI_x {g : Nat → Nat} (hv : Vg g) {i y : Nat} (hi : i < kL g) (hy : y < 14) : clkI g i = nI y ↔ (hasCk g i && ck g i == y) = true := by
  have h1 := (hv.2.2.2.1 i hi).1
  have h2 := (hv.2.2.2.1 i hi).2.1
  have h3 := ckB_lt (g := g) h1 h2
  unfold clkI clkB hasCk ck
  cases hasB g (lnC g i 0) (lnC g i 1) with
  | true => simp [nI_eq (show ckB g (lnC g i 0) (lnC g i 1) < 2 ^ 31 by omega) (show y < 2 ^ 31 by omega)]
  | false => simp [Ne.symm (show nI y ≠ -5 from nI_ne5 (by omega))]

set_option maxRecDepth 100000 in
set_option maxHeartbeats 4000000 in
theorem m_X1_isTold {l : Launch} {G : GG} {a : Nat → Nat} {P : PC} {g : Nat → Nat} {i : Nat} (hP : PR g P) (hv : Vg g) (hi : i < kL g) : zX l G yX1_isTold cX1_isTold 2 (some .boolean) 3 68 0 0 [.ref (a 0), .int (nI i)] (plan G a P) (zF (some (.int (bI (told g i)))) (plan G a P)) := by
  refine zj_startF RX1 (by decide +kernel) rfl rfl rfl (bs := [[((a 0), .inr (1, [.ref (a 1), .ref (a 3), .ref (a 5)]))], tbl G (a 1) (a 2) 14 (nI 1) P.1 0, tbl G (a 3) (a 4) 120 (nI 5) P.2.1 P.2.2.1, tbl G (a 5) (a 6) 36 (nI 3) P.2.2.2.1 P.2.2.2.2]) rfl (lo := [some (.ref (a 0)), some (.int (nI i))]) rfl ?_
  intro p0 e0 s0 m0 args0 below0 meth0 c0 A0 C hr hlocks
  refine zj_aload_n (pc := 0) C dX1_isTold_0 rfl ?_
  refine zj_iload_n (pc := 1) C dX1_isTold_1 rfl ?_
  refine zj_callPA (pc := 2) C kv_X1_65 (m_X1_isClosed hP hv hi) dX1_isTold_2 [0, 1, 2, 3] [] rfl rfl rfl rfl rfl rfl rfl rfl ⟨0, rfl⟩ rfl rfl ?_
  refine zj_ifb_ne (pc := 5) 22 C dX1_isTold_5 (by decide) (fun c_5 => ?_) (fun c_5 => ?_)
  · refine zj_iconst (pc := 22) (v := 0) C dX1_isTold_22 (by decide) ?_
    refine zj_zretF C hr hlocks dX1_isTold_23 ?_ rfl
    unfold told
    simp_all [bI]
  · refine zj_aload_n (pc := 8) C dX1_isTold_8 rfl ?_
    refine zj_iload_n (pc := 9) C dX1_isTold_9 rfl ?_
    refine zj_callPA (pc := 10) C kv_X1_68 (m_X1_clerkOf hP hv hi) dX1_isTold_10 [0, 1, 2, 3] [] rfl rfl rfl rfl rfl rfl rfl rfl ⟨0, rfl⟩ rfl rfl ?_
    refine zj_bipush (pc := 13) (v := (-5)) C dX1_isTold_13 (by decide) ?_
    refine zm_icmp_eq_0 (pc := 15) C dX1_isTold_15 dX1_isTold_18 dX1_isTold_19 dX1_isTold_22 ?_
    refine zj_zretF C hr hlocks dX1_isTold_23 ?_ rfl
    unfold told
    rw [show decide (clkI g i = -5) = !(hasCk g i) from (by have := clkI_5 hv hi; cases h9 : hasCk g i <;> simp_all)]
    simp_all [bI]
set_option maxRecDepth 100000 in
set_option maxHeartbeats 4000000 in
theorem m_X1_toldLanes {l : Launch} {G : GG} {a : Nat → Nat} {P : PC} {g : Nat → Nat} (hP : PR g P) (hv : Vg g) : zX l G yX1_toldLanes cX1_toldLanes 3 (some .int) 4 89 0 0 [.ref (a 0)] (plan G a P) (zF (some (.int (nI (cntB (told g) (kL g))))) (plan G a P)) := by
  refine zj_startF RX1 (by decide +kernel) rfl rfl rfl (bs := [[((a 0), .inr (1, [.ref (a 1), .ref (a 3), .ref (a 5)]))], tbl G (a 1) (a 2) 14 (nI 1) P.1 0, tbl G (a 3) (a 4) 120 (nI 5) P.2.1 P.2.2.1, tbl G (a 5) (a 6) 36 (nI 3) P.2.2.2.1 P.2.2.2.2]) rfl (lo := [some (.ref (a 0)), none, none]) rfl ?_
  intro p0 e0 s0 m0 args0 below0 meth0 c0 A0 C hr hlocks
  have hk := hv.1
  refine zj_iconst (pc := 0) (v := 0) C dX1_toldLanes_0 (by decide) ?_
  refine zj_istore_n (pc := 1) C dX1_toldLanes_1 (Nat.le_of_ble_eq_true rfl) ?_
  refine zj_iconst (pc := 2) (v := 0) C dX1_toldLanes_2 (by decide) ?_
  refine zj_istore_n (pc := 3) C dX1_toldLanes_3 (Nat.le_of_ble_eq_true rfl) ?_
  refine zj_keep [true, true, true] ?_
  refine zj_loopW (σ := Nat) (fun x => x ≤ kL g) (fun x => kL g - x) (fun x => [[((a 0), .inr (1, [.ref (a 1), .ref (a 3), .ref (a 5)]))], tbl G (a 1) (a 2) 14 (nI 1) P.1 0, tbl G (a 3) (a 4) 120 (nI 5) P.2.1 P.2.2.1, tbl G (a 5) (a 6) 36 (nI 3) P.2.2.2.1 P.2.2.2.2]) (fun x => [some (.ref (a 0)), some (.int (nI (cntB (told g) x))), some (.int (nI x))]) ?_ 0 (Nat.zero_le _)
  intro i hi ih
  refine zj_iload_n (pc := 4) C dX1_toldLanes_4 rfl ?_
  refine zj_aload_n (pc := 5) C dX1_toldLanes_5 rfl ?_
  refine gf_X1_1 (pc := 6) C dX1_toldLanes_6 0 rfl ?_
  refine zj_callP1 (pc := 9) C kv_X1_42 (m_X2_size) dX1_toldLanes_9 2 rfl rfl rfl rfl rfl rfl rfl ⟨0, rfl⟩ rfl rfl ?_
  refine zj_top (x' := nI (kL g)) hP.2.2.1 ?_
  refine zj_icmp_ge (pc := 12) 32 C dX1_toldLanes_12 (by decide) (fun c_12 => ?_) (fun c_12 => ?_)
  · refine zj_iload_n (pc := 32) C dX1_toldLanes_32 rfl ?_
    refine zj_iretF C hr hlocks dX1_toldLanes_33 ?_ rfl
    rw [Nat.le_antisymm (zle c_12 (by omega)) hi]
  · have hlt : i < kL g := zlt c_12 (by omega)
    refine zj_aload_n (pc := 15) C dX1_toldLanes_15 rfl ?_
    refine zj_iload_n (pc := 16) C dX1_toldLanes_16 rfl ?_
    refine zj_callPA (pc := 17) C kv_X1_72 (m_X1_isTold hP hv hlt) dX1_toldLanes_17 [0, 1, 2, 3] [] rfl rfl rfl rfl rfl rfl rfl rfl ⟨0, rfl⟩ rfl rfl ?_
    refine zj_ifb_eq (pc := 20) 26 C dX1_toldLanes_20 (by decide) (fun c_20 => ?_) (fun c_20 => ?_)
    · refine zj_iinc (pc := 26) (v := nI (i + 1)) C dX1_toldLanes_26 rfl (nI_1 _) ?_
      refine zj_goto (pc := 29) (tgt := 4) C dX1_toldLanes_29 (by decide) ?_
      exact zj_loc (lo' := [some (.ref (a 0)), some (.int (nI (cntB (told g) (i + 1)))), some (.int (nI (i + 1)))]) (by rw [cntB_f c_20]; rfl) (ih (i + 1) hlt (by omega))
    · refine zj_iinc (pc := 23) (v := nI (cntB (told g) (i + 1))) C dX1_toldLanes_23 rfl (by rw [cntB_t c_20]; exact nI_1 _) ?_
      refine zj_iinc (pc := 26) (v := nI (i + 1)) C dX1_toldLanes_26 rfl (nI_1 _) ?_
      refine zj_goto (pc := 29) (tgt := 4) C dX1_toldLanes_29 (by decide) ?_
      exact zj_keep [true, true, true] (ih (i + 1) hlt (by omega))
set_option maxRecDepth 100000 in
set_option maxHeartbeats 4000000 in
theorem m_X1_lanesOfClerk {l : Launch} {G : GG} {a : Nat → Nat} {P : PC} {g : Nat → Nat} {y : Nat} (hP : PR g P) (hv : Vg g) (hy : y < 14) : zX l G yX1_lanesOfClerk cX1_lanesOfClerk 4 (some .int) 3 68 0 0 [.ref (a 0), .int (nI y)] (plan G a P) (zF (some (.int (nI (cntB (fun i => hasCk g i && ck g i == y) (kL g))))) (plan G a P)) := by
  refine zj_startF RX1 (by decide +kernel) rfl rfl rfl (bs := [[((a 0), .inr (1, [.ref (a 1), .ref (a 3), .ref (a 5)]))], tbl G (a 1) (a 2) 14 (nI 1) P.1 0, tbl G (a 3) (a 4) 120 (nI 5) P.2.1 P.2.2.1, tbl G (a 5) (a 6) 36 (nI 3) P.2.2.2.1 P.2.2.2.2]) rfl (lo := [some (.ref (a 0)), some (.int (nI y)), none, none]) rfl ?_
  intro p0 e0 s0 m0 args0 below0 meth0 c0 A0 C hr hlocks
  have hk := hv.1
  refine zj_iconst (pc := 0) (v := 0) C dX1_lanesOfClerk_0 (by decide) ?_
  refine zj_istore_n (pc := 1) C dX1_lanesOfClerk_1 (Nat.le_of_ble_eq_true rfl) ?_
  refine zj_iconst (pc := 2) (v := 0) C dX1_lanesOfClerk_2 (by decide) ?_
  refine zj_istore_n (pc := 3) C dX1_lanesOfClerk_3 (Nat.le_of_ble_eq_true rfl) ?_
  refine zj_keep [true, true, true, true] ?_
  refine zj_loopW (σ := Nat) (fun x => x ≤ kL g) (fun x => kL g - x) (fun x => [[((a 0), .inr (1, [.ref (a 1), .ref (a 3), .ref (a 5)]))], tbl G (a 1) (a 2) 14 (nI 1) P.1 0, tbl G (a 3) (a 4) 120 (nI 5) P.2.1 P.2.2.1, tbl G (a 5) (a 6) 36 (nI 3) P.2.2.2.1 P.2.2.2.2]) (fun x => [some (.ref (a 0)), some (.int (nI y)), some (.int (nI (cntB (fun i => hasCk g i && ck g i == y) x))), some (.int (nI x))]) ?_ 0 (Nat.zero_le _)
  intro i hi ih
  refine zj_iload_n (pc := 4) C dX1_lanesOfClerk_4 rfl ?_
  refine zj_aload_n (pc := 5) C dX1_lanesOfClerk_5 rfl ?_
  refine gf_X1_1 (pc := 6) C dX1_lanesOfClerk_6 0 rfl ?_
  refine zj_callP1 (pc := 9) C kv_X1_42 (m_X2_size) dX1_lanesOfClerk_9 2 rfl rfl rfl rfl rfl rfl rfl ⟨0, rfl⟩ rfl rfl ?_
  refine zj_top (x' := nI (kL g)) hP.2.2.1 ?_
  refine zj_icmp_ge (pc := 12) 33 C dX1_lanesOfClerk_12 (by decide) (fun c_12 => ?_) (fun c_12 => ?_)
  · refine zj_iload_n (pc := 33) C dX1_lanesOfClerk_33 rfl ?_
    refine zj_iretF C hr hlocks dX1_lanesOfClerk_34 ?_ rfl
    rw [Nat.le_antisymm (zle c_12 (by omega)) hi]
  · have hlt : i < kL g := zlt c_12 (by omega)
    refine zj_aload_n (pc := 15) C dX1_lanesOfClerk_15 rfl ?_
    refine zj_iload_n (pc := 16) C dX1_lanesOfClerk_16 rfl ?_
    refine zj_callPA (pc := 17) C kv_X1_68 (m_X1_clerkOf hP hv hlt) dX1_lanesOfClerk_17 [0, 1, 2, 3] [] rfl rfl rfl rfl rfl rfl rfl rfl ⟨0, rfl⟩ rfl rfl ?_
    refine zj_iload_n (pc := 20) C dX1_lanesOfClerk_20 rfl ?_
    refine zj_icmp_ne (pc := 21) 27 C dX1_lanesOfClerk_21 (by decide) (fun c_21 => ?_) (fun c_21 => ?_)
    · refine zj_iinc (pc := 27) (v := nI (i + 1)) C dX1_lanesOfClerk_27 rfl (nI_1 _) ?_
      refine zj_goto (pc := 30) (tgt := 4) C dX1_lanesOfClerk_30 (by decide) ?_
      exact zj_loc (lo' := [some (.ref (a 0)), some (.int (nI y)), some (.int (nI (cntB (fun i => hasCk g i && ck g i == y) (i + 1)))), some (.int (nI (i + 1)))]) (by rw [cntB_f (by have := mt (clkI_x hv hlt hy).mpr c_21; simpa using this)]; rfl) (ih (i + 1) hlt (by omega))
    · refine zj_iinc (pc := 24) (v := nI (cntB (fun i => hasCk g i && ck g i == y) (i + 1))) C dX1_lanesOfClerk_24 rfl (by rw [cntB_t ((clkI_x hv hlt hy).mp c_21)]; exact nI_1 _) ?_
      refine zj_iinc (pc := 27) (v := nI (i + 1)) C dX1_lanesOfClerk_27 rfl (nI_1 _) ?_
      refine zj_goto (pc := 30) (tgt := 4) C dX1_lanesOfClerk_30 (by decide) ?_
      exact zj_keep [true, true, true, true] (ih (i + 1) hlt (by omega))
set_option maxRecDepth 100000 in
set_option maxHeartbeats 4000000 in
theorem m_X1_otherEnd {l : Launch} {G : GG} {a : Nat → Nat} {P : PC} {g : Nat → Nat} {i y : Nat} (hP : PR g P) (hv : Vg g) (hi : i < 2 ^ 31) (hy : y < 14) : zX l G yX1_otherEnd cX1_otherEnd 5 (some .int) 1 23 0 0 [.ref (a 0), .int (nI i), .int (nI y)] (plan G a P) (zF (some (.int (optI (oeN g i y)))) (plan G a P)) := by
  refine zj_startF RX1 (by decide +kernel) rfl rfl rfl (bs := [[((a 0), .inr (1, [.ref (a 1), .ref (a 3), .ref (a 5)]))], tbl G (a 1) (a 2) 14 (nI 1) P.1 0, tbl G (a 3) (a 4) 120 (nI 5) P.2.1 P.2.2.1, tbl G (a 5) (a 6) 36 (nI 3) P.2.2.2.1 P.2.2.2.2]) rfl (lo := [some (.ref (a 0)), some (.int (nI i)), some (.int (nI y)), none, none]) rfl ?_
  intro p0 e0 s0 m0 args0 below0 meth0 c0 A0 C hr hlocks
  have hk := hv.1
  refine zj_aload_n (pc := 0) C dX1_otherEnd_0 rfl ?_
  refine gf_X1_1 (pc := 1) C dX1_otherEnd_1 0 rfl ?_
  refine zj_iload_n (pc := 4) C dX1_otherEnd_4 rfl ?_
  refine zj_callP1 (pc := 5) C kv_X1_38 (m_X2_has) dX1_otherEnd_5 2 rfl rfl rfl rfl rfl rfl rfl ⟨0, rfl⟩ rfl rfl ?_
  refine zj_stk (st' := [.int (bI (tHas (nI (kL g)) (nI i)))]) (by rw [hP.2.2.1]) ?_
  refine zj_ifb_ne (pc := 8) 14 C dX1_otherEnd_8 (by decide) (fun c_8 => ?_) (fun c_8 => ?_)
  · have hlt : i < kL g := by rw [tHas_n hi (by omega)] at c_8; simpa using c_8
    have q0 := V_cell hv hlt (c := 0) (by decide)
    have q1 := V_cell hv hlt (c := 1) (by decide)
    refine zj_aload_n (pc := 14) C dX1_otherEnd_14 rfl ?_
    refine gf_X1_1 (pc := 15) C dX1_otherEnd_15 0 rfl ?_
    refine zj_iload_n (pc := 18) C dX1_otherEnd_18 rfl ?_
    refine zj_iconst (pc := 19) (v := 0) C dX1_otherEnd_19 (by decide) ?_
    refine zj_callP1 (pc := 20) C kv_X1_34 (m_X2_at (by decide)) dX1_otherEnd_20 2 rfl rfl rfl rfl rfl rfl rfl ⟨0, rfl⟩ rfl rfl ?_
    refine zj_top (x' := nI (lnC g i 0)) (P_lane hP hv hlt (by decide)) ?_
    refine zj_istore_n (pc := 23) C dX1_otherEnd_23 (Nat.le_of_ble_eq_true rfl) ?_
    refine zj_aload_n (pc := 24) C dX1_otherEnd_24 rfl ?_
    refine gf_X1_1 (pc := 25) C dX1_otherEnd_25 0 rfl ?_
    refine zj_iload_n (pc := 28) C dX1_otherEnd_28 rfl ?_
    refine zj_iconst (pc := 29) (v := 1) C dX1_otherEnd_29 (by decide) ?_
    refine zj_callP1 (pc := 30) C kv_X1_34 (m_X2_at (by decide)) dX1_otherEnd_30 2 rfl rfl rfl rfl rfl rfl rfl ⟨0, rfl⟩ rfl rfl ?_
    refine zj_top (x' := nI (lnC g i 1)) (P_lane hP hv hlt (by decide)) ?_
    refine zj_istore (pc := 33) C dX1_otherEnd_33 (Nat.le_of_ble_eq_true rfl) ?_
    refine zj_iload_n (pc := 35) C dX1_otherEnd_35 rfl ?_
    refine zj_iload_n (pc := 36) C dX1_otherEnd_36 rfl ?_
    refine zj_icmp_ne (pc := 37) 43 C dX1_otherEnd_37 (by decide) (fun c_37 => ?_) (fun c_37 => ?_)
    · refine zj_iload (pc := 43) C dX1_otherEnd_43 rfl ?_
      refine zj_iload_n (pc := 45) C dX1_otherEnd_45 rfl ?_
      refine zj_icmp_ne (pc := 46) 53 C dX1_otherEnd_46 (by decide) (fun c_46 => ?_) (fun c_46 => ?_)
      · refine zj_bipush (pc := 53) (v := (-5)) C dX1_otherEnd_53 (by decide) ?_
        refine zj_iretF C hr hlocks dX1_otherEnd_55 ?_ rfl
        rw [nI_eq (by omega) (by omega)] at c_37
        rw [nI_eq (by omega) (by omega)] at c_46
        simp [oeN, optI, hlt, c_37, c_46]
      · refine zj_iload_n (pc := 49) C dX1_otherEnd_49 rfl ?_
        refine zj_goto (pc := 50) (tgt := 55) C dX1_otherEnd_50 (by decide) ?_
        refine zj_iretF C hr hlocks dX1_otherEnd_55 ?_ rfl
        rw [nI_eq (by omega) (by omega)] at c_37
        rw [nI_eq (by omega) (by omega)] at c_46
        simp [oeN, optI, hlt, c_37, c_46]
    · refine zj_iload (pc := 40) C dX1_otherEnd_40 rfl ?_
      refine zj_iretF C hr hlocks dX1_otherEnd_42 ?_ rfl
      rw [nI_eq (by omega) (by omega)] at c_37
      simp [oeN, optI, hlt, c_37]
  · have hlt : ¬ i < kL g := by rw [tHas_n hi (by omega)] at c_8; simpa using c_8
    refine zj_bipush (pc := 11) (v := (-5)) C dX1_otherEnd_11 (by decide) ?_
    refine zj_iretF C hr hlocks dX1_otherEnd_13 ?_ rfl
    simp [oeN, optI, hlt, ]
set_option maxRecDepth 100000 in
set_option maxHeartbeats 4000000 in
theorem m_X1_otherEndN {l : Launch} {G : GG} {a : Nat → Nat} {P : PC} {g : Nat → Nat} {y : Nat} (hP : PR g P) : zX l G yX1_otherEnd cX1_otherEnd 5 (some .int) 1 23 0 0 [.ref (a 0), .int (-5), .int (nI y)] (plan G a P) (zF (some (.int (-5))) (plan G a P)) := by
  refine zj_startF RX1 (by decide +kernel) rfl rfl rfl (bs := [[((a 0), .inr (1, [.ref (a 1), .ref (a 3), .ref (a 5)]))], tbl G (a 1) (a 2) 14 (nI 1) P.1 0, tbl G (a 3) (a 4) 120 (nI 5) P.2.1 P.2.2.1, tbl G (a 5) (a 6) 36 (nI 3) P.2.2.2.1 P.2.2.2.2]) rfl (lo := [some (.ref (a 0)), some (.int (-5)), some (.int (nI y)), none, none]) rfl ?_
  intro p0 e0 s0 m0 args0 below0 meth0 c0 A0 C hr hlocks
  refine zj_aload_n (pc := 0) C dX1_otherEnd_0 rfl ?_
  refine gf_X1_1 (pc := 1) C dX1_otherEnd_1 0 rfl ?_
  refine zj_iload_n (pc := 4) C dX1_otherEnd_4 rfl ?_
  refine zj_callP1 (pc := 5) C kv_X1_38 (m_X2_has) dX1_otherEnd_5 2 rfl rfl rfl rfl rfl rfl rfl ⟨0, rfl⟩ rfl rfl ?_
  refine zj_ifb_ne (pc := 8) 14 C dX1_otherEnd_8 (by decide) (fun c_8 => absurd c_8 (by rw [tHas_neg (by decide)]; simp)) (fun c_8 => ?_)
  refine zj_bipush (pc := 11) (v := (-5)) C dX1_otherEnd_11 (by decide) ?_
  refine zj_iretF C hr hlocks dX1_otherEnd_13 ?_ rfl
  exact rfl
set_option maxRecDepth 100000 in
set_option maxHeartbeats 4000000 in
theorem m_X1_refusalOfLane {l : Launch} {G : GG} {a : Nat → Nat} {P : PC} {g : Nat → Nat} {x y len : Int32} (hP : PR g P) (hv : Vg g) : zX l G yX1_refusalOfLane cX1_refusalOfLane 4 (some .int) 1 20 0 0 [.ref (a 0), .int x, .int y, .int len] (plan G a P) (zF (some (.int (refL (kL g) x y len))) (plan G a P)) := by
  refine zj_startF RX1 (by decide +kernel) rfl rfl rfl (bs := [[((a 0), .inr (1, [.ref (a 1), .ref (a 3), .ref (a 5)]))], tbl G (a 1) (a 2) 14 (nI 1) P.1 0, tbl G (a 3) (a 4) 120 (nI 5) P.2.1 P.2.2.1, tbl G (a 5) (a 6) 36 (nI 3) P.2.2.2.1 P.2.2.2.2]) rfl (lo := [some (.ref (a 0)), some (.int x), some (.int y), some (.int len)]) rfl ?_
  intro p0 e0 s0 m0 args0 below0 meth0 c0 A0 C hr hlocks
  have hk := hv.1
  refine zj_iload_n (pc := 0) C dX1_refusalOfLane_0 rfl ?_
  refine zj_iconst (pc := 1) (v := 1) C dX1_refusalOfLane_1 (by decide) ?_
  refine zj_icmp_lt (pc := 2) 16 C dX1_refusalOfLane_2 (by decide) (fun c_2 => ?_) (fun c_2 => ?_)
  · refine zj_bipush (pc := 16) (v := (-2)) C dX1_refusalOfLane_16 (by decide) ?_
    refine zj_iretF C hr hlocks dX1_refusalOfLane_18 ?_ rfl
    simp [refL, c_2]
  · refine zj_iload_n (pc := 5) C dX1_refusalOfLane_5 rfl ?_
    refine zj_bipush (pc := 6) (v := 20) C dX1_refusalOfLane_6 (by decide) ?_
    refine zj_icmp_gt (pc := 8) 16 C dX1_refusalOfLane_8 (by decide) (fun c_8 => ?_) (fun c_8 => ?_)
    · refine zj_bipush (pc := 16) (v := (-2)) C dX1_refusalOfLane_16 (by decide) ?_
      refine zj_iretF C hr hlocks dX1_refusalOfLane_18 ?_ rfl
      simp [refL, c_2, c_8]
    · refine zj_iload_n (pc := 11) C dX1_refusalOfLane_11 rfl ?_
      refine zj_iload_n (pc := 12) C dX1_refusalOfLane_12 rfl ?_
      refine zj_icmp_ne (pc := 13) 19 C dX1_refusalOfLane_13 (by decide) (fun c_13 => ?_) (fun c_13 => ?_)
      · refine zj_aload_n (pc := 19) C dX1_refusalOfLane_19 rfl ?_
        refine gf_X1_1 (pc := 20) C dX1_refusalOfLane_20 0 rfl ?_
        refine zj_callP1 (pc := 23) C kv_X1_46 (m_X2_isFull) dX1_refusalOfLane_23 2 rfl rfl rfl rfl rfl rfl rfl ⟨0, rfl⟩ rfl rfl ?_
        refine zj_stk (st' := [.int (bI (decide (120 < (kL g + 1) * 5)))]) (by rw [hP.2.2.1, tFull_n (by omega) (by decide)]) ?_
        refine zj_ifb_eq (pc := 26) 34 C dX1_refusalOfLane_26 (by decide) (fun c_26 => ?_) (fun c_26 => ?_)
        · refine zj_iconst (pc := 34) (v := 0) C dX1_refusalOfLane_34 (by decide) ?_
          refine zj_iretF C hr hlocks dX1_refusalOfLane_35 ?_ rfl
          have h24 : ¬ kL g = 24 := by have := of_decide_eq_false c_26; omega
          simp [refL, c_2, c_8, c_13, h24]
        · refine zj_bipush (pc := 29) (v := (-3)) C dX1_refusalOfLane_29 (by decide) ?_
          refine zj_goto (pc := 31) (tgt := 35) C dX1_refusalOfLane_31 (by decide) ?_
          refine zj_iretF C hr hlocks dX1_refusalOfLane_35 ?_ rfl
          have h24 : kL g = 24 := by have := of_decide_eq_true c_26; omega
          simp [refL, c_2, c_8, c_13, h24]
      · refine zj_bipush (pc := 16) (v := (-2)) C dX1_refusalOfLane_16 (by decide) ?_
        refine zj_iretF C hr hlocks dX1_refusalOfLane_18 ?_ rfl
        simp [refL, c_2, c_8, c_13]
set_option maxRecDepth 100000 in
set_option maxHeartbeats 4000000 in
theorem m_X1_refusalOfAlley {l : Launch} {G : GG} {a : Nat → Nat} {P : PC} {g : Nat → Nat} {len : Int32} (hP : PR g P) (hv : Vg g) : zX l G yX1_refusalOfAlley cX1_refusalOfAlley 2 (some .int) 1 20 0 0 [.ref (a 0), .int len] (plan G a P) (zF (some (.int (refA (kA g) len))) (plan G a P)) := by
  refine zj_startF RX1 (by decide +kernel) rfl rfl rfl (bs := [[((a 0), .inr (1, [.ref (a 1), .ref (a 3), .ref (a 5)]))], tbl G (a 1) (a 2) 14 (nI 1) P.1 0, tbl G (a 3) (a 4) 120 (nI 5) P.2.1 P.2.2.1, tbl G (a 5) (a 6) 36 (nI 3) P.2.2.2.1 P.2.2.2.2]) rfl (lo := [some (.ref (a 0)), some (.int len)]) rfl ?_
  intro p0 e0 s0 m0 args0 below0 meth0 c0 A0 C hr hlocks
  have hk := hv.2.1
  refine zj_iload_n (pc := 0) C dX1_refusalOfAlley_0 rfl ?_
  refine zj_if_lt (pc := 1) 10 C dX1_refusalOfAlley_1 (by decide) (fun c_1 => ?_) (fun c_1 => ?_)
  · refine zj_bipush (pc := 10) (v := (-2)) C dX1_refusalOfAlley_10 (by decide) ?_
    refine zj_iretF C hr hlocks dX1_refusalOfAlley_12 ?_ rfl
    simp [refA, c_1]
  · refine zj_iload_n (pc := 4) C dX1_refusalOfAlley_4 rfl ?_
    refine zj_bipush (pc := 5) (v := 20) C dX1_refusalOfAlley_5 (by decide) ?_
    refine zj_icmp_le (pc := 7) 13 C dX1_refusalOfAlley_7 (by decide) (fun c_7 => ?_) (fun c_7 => ?_)
    · refine zj_aload_n (pc := 13) C dX1_refusalOfAlley_13 rfl ?_
      refine gf_X1_2 (pc := 14) C dX1_refusalOfAlley_14 0 rfl ?_
      refine zj_callP1 (pc := 17) C kv_X1_46 (m_X2_isFull) dX1_refusalOfAlley_17 3 rfl rfl rfl rfl rfl rfl rfl ⟨0, rfl⟩ rfl rfl ?_
      refine zj_stk (st' := [.int (bI (decide (36 < (kA g + 1) * 3)))]) (by rw [hP.2.2.2.2, tFull_n (by omega) (by decide)]) ?_
      refine zj_ifb_eq (pc := 20) 28 C dX1_refusalOfAlley_20 (by decide) (fun c_20 => ?_) (fun c_20 => ?_)
      · refine zj_iconst (pc := 28) (v := 0) C dX1_refusalOfAlley_28 (by decide) ?_
        refine zj_iretF C hr hlocks dX1_refusalOfAlley_29 ?_ rfl
        have h24 : ¬ kA g = 12 := by have := of_decide_eq_false c_20; omega
        simp [refA, c_1, c_7, h24]
      · refine zj_bipush (pc := 23) (v := (-3)) C dX1_refusalOfAlley_23 (by decide) ?_
        refine zj_goto (pc := 25) (tgt := 29) C dX1_refusalOfAlley_25 (by decide) ?_
        refine zj_iretF C hr hlocks dX1_refusalOfAlley_29 ?_ rfl
        have h24 : kA g = 12 := by have := of_decide_eq_true c_20; omega
        simp [refA, c_1, c_7, h24]
    · refine zj_bipush (pc := 10) (v := (-2)) C dX1_refusalOfAlley_10 (by decide) ?_
      refine zj_iretF C hr hlocks dX1_refusalOfAlley_12 ?_ rfl
      simp [refA, c_1, c_7]
set_option maxRecDepth 100000 in
set_option maxHeartbeats 4000000 in
theorem m_X1_addLane {l : Launch} {G : GG} {a : Nat → Nat} {P : PC} {g : Nat → Nat} {x y len d : Int32} (hP : PR g P) (hk : kL g < 24) : zX l G yX1_addLane cX1_addLane 6 (some .int) 2 40 0 0 [.ref (a 0), .int x, .int y, .int len, .int d] (plan G a P) (zF (some (.int (nI (kL g)))) (plan G a (P.1, pAdd P.2.1 (kL g) x y len d, nI (kL g + 1), P.2.2.2.1, P.2.2.2.2))) := by
  refine zj_startF RX1 (by decide +kernel) rfl rfl rfl (bs := [[((a 0), .inr (1, [.ref (a 1), .ref (a 3), .ref (a 5)]))], tbl G (a 1) (a 2) 14 (nI 1) P.1 0, tbl G (a 3) (a 4) 120 (nI 5) P.2.1 P.2.2.1, tbl G (a 5) (a 6) 36 (nI 3) P.2.2.2.1 P.2.2.2.2]) rfl (lo := [some (.ref (a 0)), some (.int x), some (.int y), some (.int len), some (.int d), none]) rfl ?_
  intro p0 e0 s0 m0 args0 below0 meth0 c0 A0 C hr hlocks
  refine zj_aload_n (pc := 0) C dX1_addLane_0 rfl ?_
  refine gf_X1_1 (pc := 1) C dX1_addLane_1 0 rfl ?_
  refine zj_callF1 (pc := 4) C kv_X1_50 (m_X2_add) dX1_addLane_4 2 rfl rfl rfl rfl rfl rfl rfl ⟨0, rfl⟩ rfl rfl ?_
  refine zj_top (x' := nI (kL g)) (by rw [hP.2.2.1]; exact (tAdd_n (n := 120) (by omega) (by decide)).1) ?_
  refine zj_istore (pc := 7) C dX1_addLane_7 (Nat.le_of_ble_eq_true rfl) ?_
  refine zj_aload_n (pc := 9) C dX1_addLane_9 rfl ?_
  refine gf_X1_1 (pc := 10) C dX1_addLane_10 0 rfl ?_
  refine zj_iload (pc := 13) C dX1_addLane_13 rfl ?_
  refine zj_iconst (pc := 15) (v := 0) C dX1_addLane_15 (by decide) ?_
  refine zj_iload_n (pc := 16) C dX1_addLane_16 rfl ?_
  refine zj_callF1n (pc := 17) C kv_X1_26 (m_X2_put (by decide)) dX1_addLane_17 2 rfl rfl rfl rfl rfl rfl rfl ⟨0, rfl⟩ rfl rfl ?_
  refine zj_aload_n (pc := 20) C dX1_addLane_20 rfl ?_
  refine gf_X1_1 (pc := 21) C dX1_addLane_21 0 rfl ?_
  refine zj_iload (pc := 24) C dX1_addLane_24 rfl ?_
  refine zj_iconst (pc := 26) (v := 1) C dX1_addLane_26 (by decide) ?_
  refine zj_iload_n (pc := 27) C dX1_addLane_27 rfl ?_
  refine zj_callF1n (pc := 28) C kv_X1_26 (m_X2_put (by decide)) dX1_addLane_28 2 rfl rfl rfl rfl rfl rfl rfl ⟨0, rfl⟩ rfl rfl ?_
  refine zj_aload_n (pc := 31) C dX1_addLane_31 rfl ?_
  refine gf_X1_1 (pc := 32) C dX1_addLane_32 0 rfl ?_
  refine zj_iload (pc := 35) C dX1_addLane_35 rfl ?_
  refine zj_iconst (pc := 37) (v := 2) C dX1_addLane_37 (by decide) ?_
  refine zj_iload_n (pc := 38) C dX1_addLane_38 rfl ?_
  refine zj_callF1n (pc := 39) C kv_X1_26 (m_X2_put (by decide)) dX1_addLane_39 2 rfl rfl rfl rfl rfl rfl rfl ⟨0, rfl⟩ rfl rfl ?_
  refine zj_aload_n (pc := 42) C dX1_addLane_42 rfl ?_
  refine gf_X1_1 (pc := 43) C dX1_addLane_43 0 rfl ?_
  refine zj_iload (pc := 46) C dX1_addLane_46 rfl ?_
  refine zj_iconst (pc := 48) (v := 3) C dX1_addLane_48 (by decide) ?_
  refine zj_iload (pc := 49) C dX1_addLane_49 rfl ?_
  refine zj_callF1n (pc := 51) C kv_X1_26 (m_X2_put (by decide)) dX1_addLane_51 2 rfl rfl rfl rfl rfl rfl rfl ⟨0, rfl⟩ rfl rfl ?_
  refine zj_aload_n (pc := 54) C dX1_addLane_54 rfl ?_
  refine gf_X1_1 (pc := 55) C dX1_addLane_55 0 rfl ?_
  refine zj_iload (pc := 58) C dX1_addLane_58 rfl ?_
  refine zj_iconst (pc := 60) (v := 4) C dX1_addLane_60 (by decide) ?_
  refine zj_iconst (pc := 61) (v := 0) C dX1_addLane_61 (by decide) ?_
  refine zj_callF1n (pc := 62) C kv_X1_26 (m_X2_put (by decide)) dX1_addLane_62 2 rfl rfl rfl rfl rfl rfl rfl ⟨0, rfl⟩ rfl rfl ?_
  refine zj_iload (pc := 65) C dX1_addLane_65 rfl ?_
  refine zj_iretF C hr hlocks dX1_addLane_67 ?_ (by simp only [hP.2.2.1, (tAdd_n (n := 120) (cn := 5) (k := kL g) (by omega) (by decide)).2, show ∀ f v, tPut 120 (nI 5) f (nI (kL g)) 0 v = upd f (kL g * 5 + 0) v from fun f v => tPut_n (j := 0) (by omega) (by decide), show ∀ f v, tPut 120 (nI 5) f (nI (kL g)) 1 v = upd f (kL g * 5 + 1) v from fun f v => tPut_n (j := 1) (by omega) (by decide), show ∀ f v, tPut 120 (nI 5) f (nI (kL g)) 2 v = upd f (kL g * 5 + 2) v from fun f v => tPut_n (j := 2) (by omega) (by decide), show ∀ f v, tPut 120 (nI 5) f (nI (kL g)) 3 v = upd f (kL g * 5 + 3) v from fun f v => tPut_n (j := 3) (by omega) (by decide), show ∀ f v, tPut 120 (nI 5) f (nI (kL g)) 4 v = upd f (kL g * 5 + 4) v from fun f v => tPut_n (j := 4) (by omega) (by decide)]; rfl)
  exact rfl
set_option maxRecDepth 100000 in
set_option maxHeartbeats 4000000 in
theorem m_X1_addAlley {l : Launch} {G : GG} {a : Nat → Nat} {P : PC} {g : Nat → Nat} {x len d : Int32} (hP : PR g P) (hk : kA g < 12) : zX l G yX1_addAlley cX1_addAlley 5 (some .int) 2 40 0 0 [.ref (a 0), .int x, .int len, .int d] (plan G a P) (zF (some (.int (nI (kA g)))) (plan G a (P.1, P.2.1, P.2.2.1, pAddA P.2.2.2.1 (kA g) x len d, nI (kA g + 1)))) := by
  refine zj_startF RX1 (by decide +kernel) rfl rfl rfl (bs := [[((a 0), .inr (1, [.ref (a 1), .ref (a 3), .ref (a 5)]))], tbl G (a 1) (a 2) 14 (nI 1) P.1 0, tbl G (a 3) (a 4) 120 (nI 5) P.2.1 P.2.2.1, tbl G (a 5) (a 6) 36 (nI 3) P.2.2.2.1 P.2.2.2.2]) rfl (lo := [some (.ref (a 0)), some (.int x), some (.int len), some (.int d), none]) rfl ?_
  intro p0 e0 s0 m0 args0 below0 meth0 c0 A0 C hr hlocks
  refine zj_aload_n (pc := 0) C dX1_addAlley_0 rfl ?_
  refine gf_X1_2 (pc := 1) C dX1_addAlley_1 0 rfl ?_
  refine zj_callF1 (pc := 4) C kv_X1_50 (m_X2_add) dX1_addAlley_4 3 rfl rfl rfl rfl rfl rfl rfl ⟨0, rfl⟩ rfl rfl ?_
  refine zj_top (x' := nI (kA g)) (by rw [hP.2.2.2.2]; exact (tAdd_n (n := 36) (by omega) (by decide)).1) ?_
  refine zj_istore (pc := 7) C dX1_addAlley_7 (Nat.le_of_ble_eq_true rfl) ?_
  refine zj_aload_n (pc := 9) C dX1_addAlley_9 rfl ?_
  refine gf_X1_2 (pc := 10) C dX1_addAlley_10 0 rfl ?_
  refine zj_iload (pc := 13) C dX1_addAlley_13 rfl ?_
  refine zj_iconst (pc := 15) (v := 0) C dX1_addAlley_15 (by decide) ?_
  refine zj_iload_n (pc := 16) C dX1_addAlley_16 rfl ?_
  refine zj_callF1n (pc := 17) C kv_X1_26 (m_X2_put (by decide)) dX1_addAlley_17 3 rfl rfl rfl rfl rfl rfl rfl ⟨0, rfl⟩ rfl rfl ?_
  refine zj_aload_n (pc := 20) C dX1_addAlley_20 rfl ?_
  refine gf_X1_2 (pc := 21) C dX1_addAlley_21 0 rfl ?_
  refine zj_iload (pc := 24) C dX1_addAlley_24 rfl ?_
  refine zj_iconst (pc := 26) (v := 1) C dX1_addAlley_26 (by decide) ?_
  refine zj_iload_n (pc := 27) C dX1_addAlley_27 rfl ?_
  refine zj_callF1n (pc := 28) C kv_X1_26 (m_X2_put (by decide)) dX1_addAlley_28 3 rfl rfl rfl rfl rfl rfl rfl ⟨0, rfl⟩ rfl rfl ?_
  refine zj_aload_n (pc := 31) C dX1_addAlley_31 rfl ?_
  refine gf_X1_2 (pc := 32) C dX1_addAlley_32 0 rfl ?_
  refine zj_iload (pc := 35) C dX1_addAlley_35 rfl ?_
  refine zj_iconst (pc := 37) (v := 2) C dX1_addAlley_37 (by decide) ?_
  refine zj_iload_n (pc := 38) C dX1_addAlley_38 rfl ?_
  refine zj_callF1n (pc := 39) C kv_X1_26 (m_X2_put (by decide)) dX1_addAlley_39 3 rfl rfl rfl rfl rfl rfl rfl ⟨0, rfl⟩ rfl rfl ?_
  refine zj_iload (pc := 42) C dX1_addAlley_42 rfl ?_
  refine zj_iretF C hr hlocks dX1_addAlley_44 ?_ (by simp only [hP.2.2.2.2, (tAdd_n (n := 36) (cn := 3) (k := kA g) (by omega) (by decide)).2, show ∀ f v, tPut 36 (nI 3) f (nI (kA g)) 0 v = upd f (kA g * 3 + 0) v from fun f v => tPut_n (j := 0) (by omega) (by decide), show ∀ f v, tPut 36 (nI 3) f (nI (kA g)) 1 v = upd f (kA g * 3 + 1) v from fun f v => tPut_n (j := 1) (by omega) (by decide), show ∀ f v, tPut 36 (nI 3) f (nI (kA g)) 2 v = upd f (kA g * 3 + 2) v from fun f v => tPut_n (j := 2) (by omega) (by decide)]; rfl)
  exact rfl
set_option maxRecDepth 100000 in
set_option maxHeartbeats 4000000 in
theorem m_X1_removeLane {l : Launch} {G : GG} {a : Nat → Nat} {P : PC} {g : Nat → Nat} {i : Nat} (hP : PR g P) (hv : Vg g) (hi : i < kL g) : zX l G yX1_removeLane cX1_removeLane 2 (some .int) 2 47 0 0 [.ref (a 0), .int (nI i)] (plan G a P) (zF (some (.int (nI (kL g - 1)))) (plan G a (P.1, tShift P.2.1 5 i ((kL g - 1) * 5), nI (kL g - 1), P.2.2.2.1, P.2.2.2.2))) := by
  refine zj_startF RX1 (by decide +kernel) rfl rfl rfl (bs := [[((a 0), .inr (1, [.ref (a 1), .ref (a 3), .ref (a 5)]))], tbl G (a 1) (a 2) 14 (nI 1) P.1 0, tbl G (a 3) (a 4) 120 (nI 5) P.2.1 P.2.2.1, tbl G (a 5) (a 6) 36 (nI 3) P.2.2.2.1 P.2.2.2.2]) rfl (lo := [some (.ref (a 0)), some (.int (nI i))]) rfl ?_
  intro p0 e0 s0 m0 args0 below0 meth0 c0 A0 C hr hlocks
  have hk := hv.1
  refine zj_blk (bs' := [[(a 0, .inr (1, [.ref (a 1), .ref (a 3), .ref (a 5)]))], tbl G (a 1) (a 2) 14 (nI 1) P.1 0, tbl G (a 3) (a 4) 120 (nI 5) P.2.1 (nI (kL g)), tbl G (a 5) (a 6) 36 (nI 3) P.2.2.2.1 P.2.2.2.2]) (by rw [← hP.2.2.1]) ?_
  refine zj_aload_n (pc := 0) C dX1_removeLane_0 rfl ?_
  refine gf_X1_1 (pc := 1) C dX1_removeLane_1 0 rfl ?_
  refine zj_iload_n (pc := 4) C dX1_removeLane_4 rfl ?_
  refine zj_callF1n (pc := 5) C kv_X1_53 (m_X2_remove hi (by omega) (by decide) (by decide) (by omega)) dX1_removeLane_5 2 rfl rfl rfl rfl rfl rfl rfl ⟨0, rfl⟩ rfl rfl ?_
  refine zj_aload_n (pc := 8) C dX1_removeLane_8 rfl ?_
  refine gf_X1_1 (pc := 9) C dX1_removeLane_9 0 rfl ?_
  refine zj_callP1 (pc := 12) C kv_X1_42 (m_X2_size) dX1_removeLane_12 2 rfl rfl rfl rfl rfl rfl rfl ⟨0, rfl⟩ rfl rfl ?_
  refine zj_iretF C hr hlocks dX1_removeLane_15 ?_ rfl
  exact rfl
set_option maxRecDepth 100000 in
set_option maxHeartbeats 4000000 in
theorem m_X1_removeAlley {l : Launch} {G : GG} {a : Nat → Nat} {P : PC} {g : Nat → Nat} {i : Nat} (hP : PR g P) (hv : Vg g) (hi : i < kA g) : zX l G yX1_removeAlley cX1_removeAlley 2 (some .int) 2 47 0 0 [.ref (a 0), .int (nI i)] (plan G a P) (zF (some (.int (nI (kA g - 1)))) (plan G a (P.1, P.2.1, P.2.2.1, tShift P.2.2.2.1 3 i ((kA g - 1) * 3), nI (kA g - 1)))) := by
  refine zj_startF RX1 (by decide +kernel) rfl rfl rfl (bs := [[((a 0), .inr (1, [.ref (a 1), .ref (a 3), .ref (a 5)]))], tbl G (a 1) (a 2) 14 (nI 1) P.1 0, tbl G (a 3) (a 4) 120 (nI 5) P.2.1 P.2.2.1, tbl G (a 5) (a 6) 36 (nI 3) P.2.2.2.1 P.2.2.2.2]) rfl (lo := [some (.ref (a 0)), some (.int (nI i))]) rfl ?_
  intro p0 e0 s0 m0 args0 below0 meth0 c0 A0 C hr hlocks
  have hk := hv.2.1
  refine zj_blk (bs' := [[(a 0, .inr (1, [.ref (a 1), .ref (a 3), .ref (a 5)]))], tbl G (a 1) (a 2) 14 (nI 1) P.1 0, tbl G (a 3) (a 4) 120 (nI 5) P.2.1 P.2.2.1, tbl G (a 5) (a 6) 36 (nI 3) P.2.2.2.1 (nI (kA g))]) (by rw [← hP.2.2.2.2]) ?_
  refine zj_aload_n (pc := 0) C dX1_removeAlley_0 rfl ?_
  refine gf_X1_2 (pc := 1) C dX1_removeAlley_1 0 rfl ?_
  refine zj_iload_n (pc := 4) C dX1_removeAlley_4 rfl ?_
  refine zj_callF1n (pc := 5) C kv_X1_53 (m_X2_remove hi (by omega) (by decide) (by decide) (by omega)) dX1_removeAlley_5 3 rfl rfl rfl rfl rfl rfl rfl ⟨0, rfl⟩ rfl rfl ?_
  refine zj_aload_n (pc := 8) C dX1_removeAlley_8 rfl ?_
  refine gf_X1_2 (pc := 9) C dX1_removeAlley_9 0 rfl ?_
  refine zj_callP1 (pc := 12) C kv_X1_42 (m_X2_size) dX1_removeAlley_12 3 rfl rfl rfl rfl rfl rfl rfl ⟨0, rfl⟩ rfl rfl ?_
  refine zj_iretF C hr hlocks dX1_removeAlley_15 ?_ rfl
  exact rfl
set_option maxRecDepth 100000 in
set_option maxHeartbeats 4000000 in
theorem m_X1_copyFrom {l : Launch} {G : GG} {a b : Nat → Nat} {P P' : PC} : zX l G yX1_copyFrom cX1_copyFrom 2 none 2 47 0 0 [.ref (a 0), .ref (b 0)] (plan G a P ++ plan G b P') (zF none (plan G a P' ++ plan G b P')) := by
  refine zj_startF RX1 (by decide +kernel) rfl rfl rfl (bs := [[((a 0), .inr (1, [.ref (a 1), .ref (a 3), .ref (a 5)]))], tbl G (a 1) (a 2) 14 (nI 1) P.1 0, tbl G (a 3) (a 4) 120 (nI 5) P.2.1 P.2.2.1, tbl G (a 5) (a 6) 36 (nI 3) P.2.2.2.1 P.2.2.2.2, [((b 0), .inr (1, [.ref (b 1), .ref (b 3), .ref (b 5)]))], tbl G (b 1) (b 2) 14 (nI 1) P'.1 0, tbl G (b 3) (b 4) 120 (nI 5) P'.2.1 P'.2.2.1, tbl G (b 5) (b 6) 36 (nI 3) P'.2.2.2.1 P'.2.2.2.2]) rfl (lo := [some (.ref (a 0)), some (.ref (b 0))]) rfl ?_
  intro p0 e0 s0 m0 args0 below0 meth0 c0 A0 C hr hlocks
  refine zj_aload_n (pc := 0) C dX1_copyFrom_0 rfl ?_
  refine gf_X1_0 (pc := 1) C dX1_copyFrom_1 0 rfl ?_
  refine zj_aload_n (pc := 4) C dX1_copyFrom_4 rfl ?_
  refine gf_X1_0 (pc := 5) C dX1_copyFrom_5 4 rfl ?_
  refine zj_callF2n (pc := 8) C kv_X1_30 (m_X2_copyFrom (by decide)) dX1_copyFrom_8 1 5 rfl rfl rfl rfl rfl rfl rfl rfl rfl ⟨0, rfl⟩ rfl rfl ?_
  refine zj_aload_n (pc := 11) C dX1_copyFrom_11 rfl ?_
  refine gf_X1_1 (pc := 12) C dX1_copyFrom_12 0 rfl ?_
  refine zj_aload_n (pc := 15) C dX1_copyFrom_15 rfl ?_
  refine gf_X1_1 (pc := 16) C dX1_copyFrom_16 4 rfl ?_
  refine zj_callF2n (pc := 19) C kv_X1_30 (m_X2_copyFrom (by decide)) dX1_copyFrom_19 2 6 rfl rfl rfl rfl rfl rfl rfl rfl rfl ⟨0, rfl⟩ rfl rfl ?_
  refine zj_aload_n (pc := 22) C dX1_copyFrom_22 rfl ?_
  refine gf_X1_2 (pc := 23) C dX1_copyFrom_23 0 rfl ?_
  refine zj_aload_n (pc := 26) C dX1_copyFrom_26 rfl ?_
  refine gf_X1_2 (pc := 27) C dX1_copyFrom_27 4 rfl ?_
  refine zj_callF2n (pc := 30) C kv_X1_30 (m_X2_copyFrom (by decide)) dX1_copyFrom_30 3 7 rfl rfl rfl rfl rfl rfl rfl rfl rfl ⟨0, rfl⟩ rfl rfl ?_
  refine zj_vretF C hr hlocks dX1_copyFrom_33 ?_
  exact rfl
