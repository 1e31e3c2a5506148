def tSg (g : Nat → Nat) (D : Nat → Nat → Nat → Nat) (al x : Nat) : Nat := tS D (dsV D) (gaV D) (alC g al 0) (alC g al 1) (alC g al 2) x
def tRg (g : Nat → Nat) (D : Nat → Nat → Nat → Nat) (al x : Nat) : Nat := tR D (dsV D) (gaV D) (alC g al 0) (alC g al 1) (alC g al 2) x
/-- the totals' rows, alley by alley -/
def suI (su : Nat → Nat) (F : Nat → Nat → Nat) (i : Nat) : Nat → Nat := fun k => if k % 12 < i then F (k % 12) (k / 12) else su k
theorem suI_0 {su : Nat → Nat} {F : Nat → Nat → Nat} : suI su F 0 = su := by
  funext k
  unfold suI
  rw [if_neg (Nat.not_lt_zero _)]
theorem suI_s {su : Nat → Nat} {F : Nat → Nat → Nat} {i c k : Nat} (hk : k < 168) : colI (colI (suI su F i) i (fun _ => c) 14) i (F i) 14 k = suI su F (i + 1) k := by
  rw [colI_2]
  unfold colI suI
  by_cases h : k % 12 = i
  · rw [if_pos ⟨h, by omega⟩, if_pos (by omega), h]
  · rw [if_neg (fun q => h q.1)]
    by_cases h2 : k % 12 < i
    · rw [if_pos h2, if_pos (by omega)]
    · rw [if_neg h2, if_neg (by omega)]
theorem TBd_suI {g : Nat → Nat} {D : Nat → Nat → Nat → Nat} {di ga su ru : Nat → Nat} {i : Nat} (h : TBd D di ga su ru) : TBd D (dsV D) (gaV D) (suI su (tSg g D) i) (suI ru (tRg g D) i) := by
  refine ⟨h.1, fun x _ => dsV_lt D x, fun d _ => gaV_lt D d, fun k hk => ?_, fun k hk => ?_⟩
  · unfold suI
    split
    · exact tS_le _ _ _ _ _ _ _
    · exact h.2.2.2.1 k hk
  · unfold suI
    split
    · exact tR_le _ _ _ _ _ _ _
    · exact h.2.2.2.2 k hk
theorem gd_ok {D : Nat → Nat → Nat → Nat} (d k : Nat) (h1 : 1 ≤ d) (hd : d < 4) (hk : k < 14) (h : bitB (gaV D d) k = true) : bitB (dsV D k) 0 = true := by
  rw [gaV_bit hk h1 hd] at h
  rw [dsV_bit (by decide)]
  exact (Bool.and_eq_true _ _ ▸ h).1
theorem tot_congr {G : GG} {a : Nat → Nat} {D : Nat → Nat → Nat → Nat} {di ga su ru su' ru' : Nat → Nat} {n : Nat} (h1 : su = su') (h2 : ru = ru') : tot G a D di ga su ru n = tot G a D di ga su' ru' n := by rw [h1, h2]

set_option maxRecDepth 100000 in
set_option maxHeartbeats 4000000 in
theorem m_X4_sumUp {l : Launch} {G : GG} {a : Nat → Nat} {D : Nat → Nat → Nat → Nat} {di ga su ru : Nat → Nat} {n : Nat} {b : Nat → Nat} {P : PC} {g : Nat → Nat} (hT : TBd D di ga su ru) (hP : PR g P) (hv : Vg g) : zX l G yX4_sumUp cX4_sumUp 4 none 4 98 0 0 [.ref (a 0), .ref (b 0)] (tot G a D di ga su ru n ++ plan G b P) (zF none (tot G a D (dsV D) (gaV D) (suI su (tSg g D) (kA g)) (suI ru (tRg g D) (kA g)) (kA g) ++ plan G b P)) := by
  refine zj_startF RX4 (by decide +kernel) rfl rfl rfl (bs := [[((a 0), .inr (4, [.ref (a 1), .ref (a 3), .ref (a 5), .ref (a 7), .ref (a 9), .int (nI n)]))], ways G (a 1) (a 2) D, tbl G (a 3) (a 4) 14 (nI 1) (nF di) 0, tbl G (a 5) (a 6) 4 (nI 1) (nF ga) 0, tbl G (a 7) (a 8) 168 (nI 12) (nF su) 0, tbl G (a 9) (a 10) 168 (nI 12) (nF ru) 0, plan G b P]) rfl (lo := [some (.ref (a 0)), some (.ref (b 0)), none, none]) rfl ?_
  intro p0 e0 s0 m0 args0 below0 meth0 c0 A0 C hr hlocks
  have hk := hv.2.1
  refine zj_aload_n (pc := 0) C dX4_sumUp_0 rfl ?_
  refine zj_aload_n (pc := 1) C dX4_sumUp_1 rfl ?_
  refine zj_callP1 (pc := 2) C kv_X4_74 (m_X1_alleyCount hP) dX4_sumUp_2 6 rfl rfl rfl rfl rfl rfl rfl ⟨0, rfl⟩ rfl rfl ?_
  refine pf_X4_5 (pc := 5) C dX4_sumUp_5 0 rfl ?_
  refine zj_aload_n (pc := 8) C dX4_sumUp_8 rfl ?_
  refine zj_callA (pc := 9) C kv_X4_77 (m_X4_findDistricts hT.1) dX4_sumUp_9 [0, 1, 2, 3, 4, 5] [6] rfl rfl rfl rfl rfl rfl rfl rfl ⟨0, rfl⟩ rfl rfl (fun v w1 hq => ?_)
  obtain ⟨rfl, rfl⟩ := hq
  refine zj_blk (bs' := [[((a 0), .inr (4, [.ref (a 1), .ref (a 3), .ref (a 5), .ref (a 7), .ref (a 9), .int (nI (kA g))]))], ways G (a 1) (a 2) D, tbl G (a 3) (a 4) 14 (nI 1) (nF (dsV D)) 0, tbl G (a 5) (a 6) 4 (nI 1) (nF (gaV D)) 0, tbl G (a 7) (a 8) 168 (nI 12) (nF su) 0, tbl G (a 9) (a 10) 168 (nI 12) (nF ru) 0, plan G b P]) rfl ?_
  refine zj_iconst (pc := 12) (v := 0) C dX4_sumUp_12 (by decide) ?_
  refine zj_istore_n (pc := 13) C dX4_sumUp_13 (Nat.le_of_ble_eq_true rfl) ?_
  refine zj_keep [true, true, true, false] ?_
  refine zj_blk (bs' := [[((a 0), .inr (4, [.ref (a 1), .ref (a 3), .ref (a 5), .ref (a 7), .ref (a 9), .int (nI (kA g))]))], ways G (a 1) (a 2) D, tbl G (a 3) (a 4) 14 (nI 1) (nF (dsV D)) 0, tbl G (a 5) (a 6) 4 (nI 1) (nF (gaV D)) 0, tbl G (a 7) (a 8) 168 (nI 12) (nF (suI su (tSg g D) (0))) 0, tbl G (a 9) (a 10) 168 (nI 12) (nF (suI ru (tRg g D) (0))) 0, plan G b P]) (by rw [suI_0, suI_0]) ?_
  refine zj_loopW (σ := Nat) (fun x => x ≤ kA g) (fun x => kA g - x) (fun x => [[((a 0), .inr (4, [.ref (a 1), .ref (a 3), .ref (a 5), .ref (a 7), .ref (a 9), .int (nI (kA g))]))], ways G (a 1) (a 2) D, tbl G (a 3) (a 4) 14 (nI 1) (nF (dsV D)) 0, tbl G (a 5) (a 6) 4 (nI 1) (nF (gaV D)) 0, tbl G (a 7) (a 8) 168 (nI 12) (nF (suI su (tSg g D) (x))) 0, tbl G (a 9) (a 10) 168 (nI 12) (nF (suI ru (tRg g D) (x))) 0, plan G b P]) (fun x => [some (.ref (a 0)), some (.ref (b 0)), some (.int (nI x)), none]) ?_ 0 (Nat.zero_le _)
  intro i hi ih
  have hTi := TBd_suI (g := g) (i := i) hT
  refine zj_iload_n (pc := 14) C dX4_sumUp_14 rfl ?_
  refine zj_aload_n (pc := 15) C dX4_sumUp_15 rfl ?_
  refine gf_X4_5 (pc := 16) C dX4_sumUp_16 0 rfl ?_
  refine zj_icmp_ge (pc := 19) 69 C dX4_sumUp_19 (by decide) (fun c_19 => ?_) (fun c_19 => ?_)
  · refine zj_vretF C hr hlocks dX4_sumUp_69 ?_
    rw [show i = kA g from Nat.le_antisymm hi (zle c_19 (by omega))]
    exact rfl
  · have hlt : i < kA g := zlt c_19 (by omega)
    have hi12 : i < 12 := by omega
    refine zj_iconst (pc := 22) (v := 0) C dX4_sumUp_22 (by decide) ?_
    refine zj_istore_n (pc := 23) C dX4_sumUp_23 (Nat.le_of_ble_eq_true rfl) ?_
    refine zj_keep [true, true, true, true] ?_
    refine zj_blk (bs' := [[((a 0), .inr (4, [.ref (a 1), .ref (a 3), .ref (a 5), .ref (a 7), .ref (a 9), .int (nI (kA g))]))], ways G (a 1) (a 2) D, tbl G (a 3) (a 4) 14 (nI 1) (nF (dsV D)) 0, tbl G (a 5) (a 6) 4 (nI 1) (nF (gaV D)) 0, tbl G (a 7) (a 8) 168 (nI 12) (nF (colI (suI su (tSg g D) i) i (fun _ => 1000000) (0))) 0, tbl G (a 9) (a 10) 168 (nI 12) (nF (colI (suI ru (tRg g D) i) i (fun _ => 0) (0))) 0, plan G b P]) (by rw [colI_0, colI_0]) ?_
    refine zj_loopW (σ := Nat) (fun x => x ≤ 14) (fun x => 14 - x) (fun x => [[((a 0), .inr (4, [.ref (a 1), .ref (a 3), .ref (a 5), .ref (a 7), .ref (a 9), .int (nI (kA g))]))], ways G (a 1) (a 2) D, tbl G (a 3) (a 4) 14 (nI 1) (nF (dsV D)) 0, tbl G (a 5) (a 6) 4 (nI 1) (nF (gaV D)) 0, tbl G (a 7) (a 8) 168 (nI 12) (nF (colI (suI su (tSg g D) i) i (fun _ => 1000000) (x))) 0, tbl G (a 9) (a 10) 168 (nI 12) (nF (colI (suI ru (tRg g D) i) i (fun _ => 0) (x))) 0, plan G b P]) (fun x => [some (.ref (a 0)), some (.ref (b 0)), some (.int (nI i)), some (.int (nI x))]) ?_ 0 (Nat.zero_le _)
    intro j hj ihj
    refine zj_iload_n (pc := 24) C dX4_sumUp_24 rfl ?_
    refine zj_bipush (pc := 25) (v := 14) C dX4_sumUp_25 (by decide) ?_
    refine zj_icmp_ge (pc := 27) 57 C dX4_sumUp_27 (by decide) (fun c_27 => ?_) (fun c_27 => ?_)
    · have hj9 : j = 14 := Nat.le_antisymm hj (zle c_27 (by omega))
      have hT2 := TBd_col (F := fun _ => 1000000) (R := fun _ => 0) (al := i) (i := 14) hTi (fun _ => Nat.le_refl _) (fun _ => by decide)
      refine zj_blk (bs' := [[((a 0), .inr (4, [.ref (a 1), .ref (a 3), .ref (a 5), .ref (a 7), .ref (a 9), .int (nI (kA g))]))], ways G (a 1) (a 2) D, tbl G (a 3) (a 4) 14 (nI 1) (nF (dsV D)) 0, tbl G (a 5) (a 6) 4 (nI 1) (nF (gaV D)) 0, tbl G (a 7) (a 8) 168 (nI 12) (nF (colI (suI su (tSg g D) i) i (fun _ => 1000000) (14))) 0, tbl G (a 9) (a 10) 168 (nI 12) (nF (colI (suI ru (tRg g D) i) i (fun _ => 0) (14))) 0, plan G b P]) (by rw [hj9]) ?_
      refine zj_aload_n (pc := 57) C dX4_sumUp_57 rfl ?_
      refine zj_aload_n (pc := 58) C dX4_sumUp_58 rfl ?_
      refine zj_iload_n (pc := 59) C dX4_sumUp_59 rfl ?_
      refine zj_callA (pc := 60) C kv_X4_85 (m_X4_sumUpAlley hT2 hP hv hlt (fun x hx => by rw [colI_at hi12, if_pos hx]) (fun x hx => by rw [colI_at hi12, if_pos hx]) (fun d k h1 h2 h3 h4 => gd_ok d k h1 h2 h3 h4)) dX4_sumUp_60 [0, 1, 2, 3, 4, 5, 6] [] rfl rfl rfl rfl rfl rfl rfl rfl ⟨0, rfl⟩ rfl rfl (fun v w1 hq => ?_)
      obtain ⟨rfl, rfl⟩ := hq
      refine zj_blk (bs' := [[((a 0), .inr (4, [.ref (a 1), .ref (a 3), .ref (a 5), .ref (a 7), .ref (a 9), .int (nI (kA g))]))], ways G (a 1) (a 2) D, tbl G (a 3) (a 4) 14 (nI 1) (nF (dsV D)) 0, tbl G (a 5) (a 6) 4 (nI 1) (nF (gaV D)) 0, tbl G (a 7) (a 8) 168 (nI 12) (nF (colI (colI (suI su (tSg g D) i) i (fun _ => 1000000) (14)) i (tSg g D i) 14)) 0, tbl G (a 9) (a 10) 168 (nI 12) (nF (colI (colI (suI ru (tRg g D) i) i (fun _ => 0) (14)) i (tRg g D i) 14)) 0, plan G b P]) rfl ?_
      refine zj_iinc (pc := 63) (v := nI (i + 1)) C dX4_sumUp_63 rfl (nI_1 _) ?_
      refine zj_goto (pc := 66) (tgt := 14) C dX4_sumUp_66 (by decide) ?_
      refine zj_keep [true, true, true, false] ?_
      refine zj_tbl 4 (nF (suI su (tSg g D) (i + 1))) rfl (fun k hk => congrArg nI (suI_s hk)) ?_
      refine zj_tbl 5 (nF (suI ru (tRg g D) (i + 1))) rfl (fun k hk => congrArg nI (suI_s hk)) ?_
      exact ih (i + 1) hlt (by omega)
    · have hj14 : j < 14 := zlt c_27 (by omega)
      refine zj_aload_n (pc := 30) C dX4_sumUp_30 rfl ?_
      refine gf_X4_3 (pc := 31) C dX4_sumUp_31 0 rfl ?_
      refine zj_iload_n (pc := 34) C dX4_sumUp_34 rfl ?_
      refine zj_iload_n (pc := 35) C dX4_sumUp_35 rfl ?_
      refine zj_ldc (pc := 36) (v := 1000000) C dX4_sumUp_36 aq_325 ?_
      refine zj_callF1n (pc := 38) C kv_X4_81 (m_X2_put (by decide)) dX4_sumUp_38 4 rfl rfl rfl rfl rfl rfl rfl ⟨0, rfl⟩ rfl rfl ?_
      refine zj_aload_n (pc := 41) C dX4_sumUp_41 rfl ?_
      refine gf_X4_4 (pc := 42) C dX4_sumUp_42 0 rfl ?_
      refine zj_iload_n (pc := 45) C dX4_sumUp_45 rfl ?_
      refine zj_iload_n (pc := 46) C dX4_sumUp_46 rfl ?_
      refine zj_iconst (pc := 47) (v := 0) C dX4_sumUp_47 (by decide) ?_
      refine zj_callF1n (pc := 48) C kv_X4_81 (m_X2_put (by decide)) dX4_sumUp_48 5 rfl rfl rfl rfl rfl rfl rfl ⟨0, rfl⟩ rfl rfl ?_
      refine zj_iinc (pc := 51) (v := nI (j + 1)) C dX4_sumUp_51 rfl (nI_1 _) ?_
      refine zj_goto (pc := 54) (tgt := 24) C dX4_sumUp_54 (by decide) ?_
      refine zj_blk (bs' := [[((a 0), .inr (4, [.ref (a 1), .ref (a 3), .ref (a 5), .ref (a 7), .ref (a 9), .int (nI (kA g))]))], ways G (a 1) (a 2) D, tbl G (a 3) (a 4) 14 (nI 1) (nF (dsV D)) 0, tbl G (a 5) (a 6) 4 (nI 1) (nF (gaV D)) 0, tbl G (a 7) (a 8) 168 (nI 12) (nF (colI (suI su (tSg g D) i) i (fun _ => 1000000) (j + 1))) 0, tbl G (a 9) (a 10) 168 (nI 12) (nF (colI (suI ru (tRg g D) i) i (fun _ => 0) (j + 1))) 0, plan G b P]) (by rw [← colI_s hi12, ← colI_s hi12, ← tPut_s hj14 hi12, ← tPut_s hj14 hi12]; rfl) ?_
      exact ihj (j + 1) hj14 (by omega)
set_option maxRecDepth 100000 in
set_option maxHeartbeats 4000000 in
theorem m_X4_joinLane {l : Launch} {G : GG} {a : Nat → Nat} {D : Nat → Nat → Nat → Nat} {di ga su ru : Nat → Nat} {n : Nat} {b : Nat → Nat} {P : PC} {g : Nat → Nat} {i ly : Nat} (hB : WB D) (hM : MD (D ly)) (hP : PR g P) (hv : Vg g) (hi : i < kL g) (hly : ly < 5) : zX l G yX4_joinLane cX4_joinLane 4 none 3 78 0 0 [.ref (a 0), .ref (b 0), .int (nI i), .int (nI ly)] (tot G a D di ga su ru n ++ plan G b P) (zF none (tot G a (jD D ly (lnC g i 0) (lnC g i 1) (lnC g i 2)) di ga su ru n ++ plan G b P)) := by
  refine zj_startF RX4 (by decide +kernel) rfl rfl rfl (bs := [[((a 0), .inr (4, [.ref (a 1), .ref (a 3), .ref (a 5), .ref (a 7), .ref (a 9), .int (nI n)]))], ways G (a 1) (a 2) D, tbl G (a 3) (a 4) 14 (nI 1) (nF di) 0, tbl G (a 5) (a 6) 4 (nI 1) (nF ga) 0, tbl G (a 7) (a 8) 168 (nI 12) (nF su) 0, tbl G (a 9) (a 10) 168 (nI 12) (nF ru) 0, plan G b P]) rfl (lo := [some (.ref (a 0)), some (.ref (b 0)), some (.int (nI i)), some (.int (nI ly))]) rfl ?_
  intro p0 e0 s0 m0 args0 below0 meth0 c0 A0 C hr hlocks
  obtain ⟨l0, l1, l2, l3, l4, l5, l6⟩ := hv.2.2.2.1 i hi
  refine zj_aload_n (pc := 0) C dX4_joinLane_0 rfl ?_
  refine gf_X4_0 (pc := 1) C dX4_joinLane_1 0 rfl ?_
  refine zj_iload_n (pc := 4) C dX4_joinLane_4 rfl ?_
  refine zj_aload_n (pc := 5) C dX4_joinLane_5 rfl ?_
  refine zj_iload_n (pc := 6) C dX4_joinLane_6 rfl ?_
  refine zj_iconst (pc := 7) (v := 0) C dX4_joinLane_7 (by decide) ?_
  refine zj_callP1 (pc := 8) C kv_X4_54 (m_X1_laneCell hP hv hi (c := 0) (by decide)) dX4_joinLane_8 6 rfl rfl rfl rfl rfl rfl rfl ⟨0, rfl⟩ rfl rfl ?_
  refine zj_aload_n (pc := 11) C dX4_joinLane_11 rfl ?_
  refine zj_iload_n (pc := 12) C dX4_joinLane_12 rfl ?_
  refine zj_iconst (pc := 13) (v := 1) C dX4_joinLane_13 (by decide) ?_
  refine zj_callP1 (pc := 14) C kv_X4_54 (m_X1_laneCell hP hv hi (c := 1) (by decide)) dX4_joinLane_14 6 rfl rfl rfl rfl rfl rfl rfl ⟨0, rfl⟩ rfl rfl ?_
  refine zj_aload_n (pc := 17) C dX4_joinLane_17 rfl ?_
  refine zj_iload_n (pc := 18) C dX4_joinLane_18 rfl ?_
  refine zj_iconst (pc := 19) (v := 2) C dX4_joinLane_19 (by decide) ?_
  refine zj_callP1 (pc := 20) C kv_X4_54 (m_X1_laneCell hP hv hi (c := 2) (by decide)) dX4_joinLane_20 6 rfl rfl rfl rfl rfl rfl rfl ⟨0, rfl⟩ rfl rfl ?_
  refine zj_callF1n (pc := 23) C kv_X4_70 (m_X5_join hly l0 l1 l3 l4 hB hM) dX4_joinLane_23 1 rfl rfl rfl rfl rfl rfl rfl ⟨0, rfl⟩ rfl rfl ?_
  refine zj_vretF C hr hlocks dX4_joinLane_26 ?_
  exact rfl
set_option maxRecDepth 100000 in
set_option maxHeartbeats 4000000 in
theorem m_X4_workOutAll {l : Launch} {G : GG} {a : Nat → Nat} {D : Nat → Nat → Nat → Nat} {di ga su ru : Nat → Nat} {n : Nat} {b : Nat → Nat} {P : PC} {g : Nat → Nat} (hT : TBd D di ga su ru) (hP : PR g P) (hv : Vg g) : zX l G yX4_workOutAll cX4_workOutAll 3 none 5 121 0 0 [.ref (a 0), .ref (b 0)] (tot G a D di ga su ru n ++ plan G b P) (zF none (tot G a (dstD g D) (dsV (dstD g D)) (gaV (dstD g D)) (suI su (tSg g (dstD g D)) (kA g)) (suI ru (tRg g (dstD g D)) (kA g)) (kA g) ++ plan G b P)) := by
  refine zj_startF RX4 (by decide +kernel) rfl rfl rfl (bs := [[((a 0), .inr (4, [.ref (a 1), .ref (a 3), .ref (a 5), .ref (a 7), .ref (a 9), .int (nI n)]))], ways G (a 1) (a 2) D, tbl G (a 3) (a 4) 14 (nI 1) (nF di) 0, tbl G (a 5) (a 6) 4 (nI 1) (nF ga) 0, tbl G (a 7) (a 8) 168 (nI 12) (nF su) 0, tbl G (a 9) (a 10) 168 (nI 12) (nF ru) 0, plan G b P]) rfl (lo := [some (.ref (a 0)), some (.ref (b 0)), none]) rfl ?_
  intro p0 e0 s0 m0 args0 below0 meth0 c0 A0 C hr hlocks
  have hk := hv.1
  refine zj_iconst (pc := 0) (v := 0) C dX4_workOutAll_0 (by decide) ?_
  refine zj_istore_n (pc := 1) C dX4_workOutAll_1 (Nat.le_of_ble_eq_true rfl) ?_
  refine zj_keep [true, true, true] ?_
  refine zj_loopW (σ := Nat) (fun x => x ≤ 5) (fun x => 5 - x) (fun x => [[((a 0), .inr (4, [.ref (a 1), .ref (a 3), .ref (a 5), .ref (a 7), .ref (a 9), .int (nI n)]))], ways G (a 1) (a 2) (clI5 D x), tbl G (a 3) (a 4) 14 (nI 1) (nF di) 0, tbl G (a 5) (a 6) 4 (nI 1) (nF ga) 0, tbl G (a 7) (a 8) 168 (nI 12) (nF su) 0, tbl G (a 9) (a 10) 168 (nI 12) (nF ru) 0, plan G b P]) (fun x => [some (.ref (a 0)), some (.ref (b 0)), some (.int (nI x))]) ?_ 0 (Nat.zero_le _)
  intro k hk5 ih
  refine zj_iload_n (pc := 2) C dX4_workOutAll_2 rfl ?_
  refine zj_iconst (pc := 3) (v := 5) C dX4_workOutAll_3 (by decide) ?_
  refine zj_icmp_ge (pc := 4) 21 C dX4_workOutAll_4 (by decide) (fun c_4 => ?_) (fun c_4 => ?_)
  · refine zj_iconst (pc := 21) (v := 0) C dX4_workOutAll_21 (by decide) ?_
    refine zj_istore_n (pc := 22) C dX4_workOutAll_22 (Nat.le_of_ble_eq_true rfl) ?_
    refine zj_keep [true, true, true] ?_
    refine zj_blk (bs' := [[((a 0), .inr (4, [.ref (a 1), .ref (a 3), .ref (a 5), .ref (a 7), .ref (a 9), .int (nI n)]))], ways G (a 1) (a 2) (DDI g D 0), tbl G (a 3) (a 4) 14 (nI 1) (nF di) 0, tbl G (a 5) (a 6) 4 (nI 1) (nF ga) 0, tbl G (a 7) (a 8) 168 (nI 12) (nF su) 0, tbl G (a 9) (a 10) 168 (nI 12) (nF ru) 0, plan G b P]) (by rw [show k = 5 from Nat.le_antisymm hk5 (zle c_4 (by omega))]; rfl) ?_
    refine zj_loopW (σ := Nat) (fun x => x ≤ kL g) (fun x => kL g - x) (fun x => [[((a 0), .inr (4, [.ref (a 1), .ref (a 3), .ref (a 5), .ref (a 7), .ref (a 9), .int (nI n)]))], ways G (a 1) (a 2) (DDI g D x), tbl G (a 3) (a 4) 14 (nI 1) (nF di) 0, tbl G (a 5) (a 6) 4 (nI 1) (nF ga) 0, tbl G (a 7) (a 8) 168 (nI 12) (nF su) 0, tbl G (a 9) (a 10) 168 (nI 12) (nF ru) 0, plan G b P]) (fun x => [some (.ref (a 0)), some (.ref (b 0)), some (.int (nI x))]) ?_ 0 (Nat.zero_le _)
    intro i hi ih2
    refine zj_iload_n (pc := 23) C dX4_workOutAll_23 rfl ?_
    refine zj_aload_n (pc := 24) C dX4_workOutAll_24 rfl ?_
    refine zj_callP1 (pc := 25) C kv_X4_44 (m_X1_laneCount hP) dX4_workOutAll_25 6 rfl rfl rfl rfl rfl rfl rfl ⟨0, rfl⟩ rfl rfl ?_
    refine zj_icmp_ge (pc := 28) 64 C dX4_workOutAll_28 (by decide) (fun c_28 => ?_) (fun c_28 => ?_)
    · refine zj_blk (bs' := [[((a 0), .inr (4, [.ref (a 1), .ref (a 3), .ref (a 5), .ref (a 7), .ref (a 9), .int (nI n)]))], ways G (a 1) (a 2) (dstD g D), tbl G (a 3) (a 4) 14 (nI 1) (nF di) 0, tbl G (a 5) (a 6) 4 (nI 1) (nF ga) 0, tbl G (a 7) (a 8) 168 (nI 12) (nF su) 0, tbl G (a 9) (a 10) 168 (nI 12) (nF ru) 0, plan G b P]) (by rw [show i = kL g from Nat.le_antisymm hi (zle c_28 (by omega))]; rfl) ?_
      have hT2 : TBd (dstD g D) di ga su ru := ⟨DDI_WB hv (Nat.le_refl _), hT.2⟩
      refine zj_aload_n (pc := 64) C dX4_workOutAll_64 rfl ?_
      refine zj_aload_n (pc := 65) C dX4_workOutAll_65 rfl ?_
      refine zj_callA (pc := 66) C kv_X4_62 (m_X4_sumUp hT2 hP hv) dX4_workOutAll_66 [0, 1, 2, 3, 4, 5, 6] [] rfl rfl rfl rfl rfl rfl rfl rfl ⟨0, rfl⟩ rfl rfl (fun v w1 hq => ?_)
      obtain ⟨rfl, rfl⟩ := hq
      refine zj_blk (bs' := [tot G a (dstD g D) (dsV (dstD g D)) (gaV (dstD g D)) (suI su (tSg g (dstD g D)) (kA g)) (suI ru (tRg g (dstD g D)) (kA g)) (kA g) ++ plan G b P]) rfl ?_
      refine zj_vretF C hr hlocks dX4_workOutAll_69 ?_
      exact rfl
    · have hil : i < kL g := zlt c_28 (by omega)
      obtain ⟨l0, l1, l2, l3, l4, l5, l6⟩ := hv.2.2.2.1 i hil
      refine zj_aload_n (pc := 31) C dX4_workOutAll_31 rfl ?_
      refine zj_iload_n (pc := 32) C dX4_workOutAll_32 rfl ?_
      refine zj_callP1 (pc := 33) C kv_X4_50 (m_X1_isTold hP hv hil) dX4_workOutAll_33 6 rfl rfl rfl rfl rfl rfl rfl ⟨0, rfl⟩ rfl rfl ?_
      refine zj_ifb_eq (pc := 36) 58 C dX4_workOutAll_36 (by decide) (fun c_36 => ?_) (fun c_36 => ?_)
      · refine zj_iinc (pc := 58) (v := nI (i + 1)) C dX4_workOutAll_58 rfl (nI_1 _) ?_
        refine zj_goto (pc := 61) (tgt := 23) C dX4_workOutAll_61 (by decide) ?_
        refine zj_blk (bs' := [[((a 0), .inr (4, [.ref (a 1), .ref (a 3), .ref (a 5), .ref (a 7), .ref (a 9), .int (nI n)]))], ways G (a 1) (a 2) (DDI g D (i + 1)), tbl G (a 3) (a 4) 14 (nI 1) (nF di) 0, tbl G (a 5) (a 6) 4 (nI 1) (nF ga) 0, tbl G (a 7) (a 8) 168 (nI 12) (nF su) 0, tbl G (a 9) (a 10) 168 (nI 12) (nF ru) 0, plan G b P]) (by rw [← DDI_f c_36]) ?_
        exact ih2 (i + 1) hil (by omega)
      · refine zj_aload_n (pc := 39) C dX4_workOutAll_39 rfl ?_
        refine zj_aload_n (pc := 40) C dX4_workOutAll_40 rfl ?_
        refine zj_iload_n (pc := 41) C dX4_workOutAll_41 rfl ?_
        refine zj_aload_n (pc := 42) C dX4_workOutAll_42 rfl ?_
        refine zj_iload_n (pc := 43) C dX4_workOutAll_43 rfl ?_
        refine zj_iconst (pc := 44) (v := 3) C dX4_workOutAll_44 (by decide) ?_
        refine zj_callP1 (pc := 45) C kv_X4_54 (m_X1_laneCell hP hv hil (c := 3) (by decide)) dX4_workOutAll_45 6 rfl rfl rfl rfl rfl rfl rfl ⟨0, rfl⟩ rfl rfl ?_
        refine zj_callA (pc := 48) C kv_X4_58 (m_X4_joinLane (DDI_WB hv (by omega)) (by rw [DDI_ly (by omega)]; exact dstF_MD hv (clV_MD _) (by omega)) hP hv hil (by omega)) dX4_workOutAll_48 [0, 1, 2, 3, 4, 5, 6] [] rfl rfl rfl rfl rfl rfl rfl rfl ⟨0, rfl⟩ rfl rfl (fun v w1 hq => ?_)
        obtain ⟨rfl, rfl⟩ := hq
        refine zj_blk (bs' := [[((a 0), .inr (4, [.ref (a 1), .ref (a 3), .ref (a 5), .ref (a 7), .ref (a 9), .int (nI n)]))], ways G (a 1) (a 2) (jD (DDI g D i) (lnC g i 3) (lnC g i 0) (lnC g i 1) (lnC g i 2)), tbl G (a 3) (a 4) 14 (nI 1) (nF di) 0, tbl G (a 5) (a 6) 4 (nI 1) (nF ga) 0, tbl G (a 7) (a 8) 168 (nI 12) (nF su) 0, tbl G (a 9) (a 10) 168 (nI 12) (nF ru) 0, plan G b P]) rfl ?_
        refine zj_aload_n (pc := 51) C dX4_workOutAll_51 rfl ?_
        refine zj_aload_n (pc := 52) C dX4_workOutAll_52 rfl ?_
        refine zj_iload_n (pc := 53) C dX4_workOutAll_53 rfl ?_
        refine zj_iconst (pc := 54) (v := 4) C dX4_workOutAll_54 (by decide) ?_
        refine zj_callA (pc := 55) C kv_X4_58 (m_X4_joinLane (ly := 4) (jD_WB (DDI_WB hv (by omega))) (by rw [show jD (DDI g D i) (lnC g i 3) (lnC g i 0) (lnC g i 1) (lnC g i 2) 4 = DDI g D i 4 from funext fun x => funext fun y => if_neg (by omega), DDI_ly (by omega)]; exact dstF_MD hv (clV_MD _) (by omega)) hP hv hil (by omega)) dX4_workOutAll_55 [0, 1, 2, 3, 4, 5, 6] [] rfl rfl rfl rfl rfl rfl rfl rfl ⟨0, rfl⟩ rfl rfl (fun v w1 hq => ?_)
        obtain ⟨rfl, rfl⟩ := hq
        refine zj_blk (bs' := [[((a 0), .inr (4, [.ref (a 1), .ref (a 3), .ref (a 5), .ref (a 7), .ref (a 9), .int (nI n)]))], ways G (a 1) (a 2) (DDI g D (i + 1)), tbl G (a 3) (a 4) 14 (nI 1) (nF di) 0, tbl G (a 5) (a 6) 4 (nI 1) (nF ga) 0, tbl G (a 7) (a 8) 168 (nI 12) (nF su) 0, tbl G (a 9) (a 10) 168 (nI 12) (nF ru) 0, plan G b P]) (by rw [← DDI_t hv hil c_36]; rfl) ?_
        refine zj_iinc (pc := 58) (v := nI (i + 1)) C dX4_workOutAll_58 rfl (nI_1 _) ?_
        refine zj_goto (pc := 61) (tgt := 23) C dX4_workOutAll_61 (by decide) ?_
        exact ih2 (i + 1) hil (by omega)
  · have hlt : k < 5 := zlt c_4 (by omega)
    refine zj_aload_n (pc := 7) C dX4_workOutAll_7 rfl ?_
    refine gf_X4_0 (pc := 8) C dX4_workOutAll_8 0 rfl ?_
    refine zj_iload_n (pc := 11) C dX4_workOutAll_11 rfl ?_
    refine zj_callF1n (pc := 12) C kv_X4_40 (m_X5_clear hlt) dX4_workOutAll_12 1 rfl rfl rfl rfl rfl rfl rfl ⟨0, rfl⟩ rfl rfl ?_
    refine zj_iinc (pc := 15) (v := nI (k + 1)) C dX4_workOutAll_15 rfl (nI_1 _) ?_
    refine zj_goto (pc := 18) (tgt := 2) C dX4_workOutAll_18 (by decide) ?_
    refine zj_blk (bs' := [[((a 0), .inr (4, [.ref (a 1), .ref (a 3), .ref (a 5), .ref (a 7), .ref (a 9), .int (nI n)]))], ways G (a 1) (a 2) (clI5 D (k + 1)), tbl G (a 3) (a 4) 14 (nI 1) (nF di) 0, tbl G (a 5) (a 6) 4 (nI 1) (nF ga) 0, tbl G (a 7) (a 8) 168 (nI 12) (nF su) 0, tbl G (a 9) (a 10) 168 (nI 12) (nF ru) 0, plan G b P]) (by rw [← clI5_s]; rfl) ?_
    exact ih (k + 1) hlt (by omega)
