set_option maxRecDepth 100000 in
set_option maxHeartbeats 4000000 in
theorem m_X4_workOutWithout {l : Launch} {G : GG} {a : Nat → Nat} {D : Nat → Nat → Nat → Nat} {di ga su ru : Nat → Nat} {n : Nat} {b : Nat → Nat} {P : PC} {g : Nat → Nat} {o : Nat → Nat} {D2 : Nat → Nat → Nat → Nat} {di2 ga2 su2 ru2 : Nat → Nat} {n2 : Nat} {lo0 : Nat} (hT : TBd D di ga su ru) (hP : PR g P) (hv : Vg g) (hB2 : WB D2) (hlo : lo0 < kL g) : zX l G yX4_workOutWithout cX4_workOutWithout 6 none 5 121 0 0 [.ref (a 0), .ref (b 0), .ref (o 0), .int (nI lo0)] (tot G a D di ga su ru n ++ (plan G b P ++ tot G o D2 di2 ga2 su2 ru2 n2)) (zF none (tot G a (WOI g D2 (lnC g lo0 3) lo0 (kL g)) (dsV (WOI g D2 (lnC g lo0 3) lo0 (kL g))) (gaV (WOI g D2 (lnC g lo0 3) lo0 (kL g))) (suI su (tSg g (WOI g D2 (lnC g lo0 3) lo0 (kL g))) (kA g)) (suI ru (tRg g (WOI g D2 (lnC g lo0 3) lo0 (kL g))) (kA g)) (kA g) ++ (plan G b P ++ tot G o D2 di2 ga2 su2 ru2 n2))) := by
  refine zj_startF RX4 (by decide +kernel) rfl rfl rfl (bs := [[((a 0), .inr (4, [.ref (a 1), .ref (a 3), .ref (a 5), .ref (a 7), .ref (a 9), .int (nI n)]))], ways G (a 1) (a 2) D, tbl G (a 3) (a 4) 14 (nI 1) (nF di) 0, tbl G (a 5) (a 6) 4 (nI 1) (nF ga) 0, tbl G (a 7) (a 8) 168 (nI 12) (nF su) 0, tbl G (a 9) (a 10) 168 (nI 12) (nF ru) 0, plan G b P, [((o 0), .inr (4, [.ref (o 1), .ref (o 3), .ref (o 5), .ref (o 7), .ref (o 9), .int (nI n2)]))], ways G (o 1) (o 2) D2, tbl G (o 3) (o 4) 14 (nI 1) (nF di2) 0, tbl G (o 5) (o 6) 4 (nI 1) (nF ga2) 0, tbl G (o 7) (o 8) 168 (nI 12) (nF su2) 0, tbl G (o 9) (o 10) 168 (nI 12) (nF ru2) 0]) rfl (lo := [some (.ref (a 0)), some (.ref (b 0)), some (.ref (o 0)), some (.int (nI lo0)), none, none]) rfl ?_
  intro p0 e0 s0 m0 args0 below0 meth0 c0 A0 C hr hlocks
  have hk := hv.1
  have hd4 : lnC g lo0 3 < 4 := (hv.2.2.2.1 lo0 hlo).2.2.2.2.2.1
  refine zj_aload_n (pc := 0) C dX4_workOutWithout_0 rfl ?_
  refine zj_iload_n (pc := 1) C dX4_workOutWithout_1 rfl ?_
  refine zj_iconst (pc := 2) (v := 3) C dX4_workOutWithout_2 (by decide) ?_
  refine zj_callP1 (pc := 3) C kv_X4_54 (m_X1_laneCell hP hv hlo (c := 3) (by decide)) dX4_workOutWithout_3 6 rfl rfl rfl rfl rfl rfl rfl ⟨0, rfl⟩ rfl rfl ?_
  refine zj_top (x' := nI (lnC g lo0 3)) rfl ?_
  refine zj_istore (pc := 6) C dX4_workOutWithout_6 (Nat.le_of_ble_eq_true rfl) ?_
  refine zj_aload_n (pc := 8) C dX4_workOutWithout_8 rfl ?_
  refine gf_X4_0 (pc := 9) C dX4_workOutWithout_9 0 rfl ?_
  refine zj_aload_n (pc := 12) C dX4_workOutWithout_12 rfl ?_
  refine gf_X4_0 (pc := 13) C dX4_workOutWithout_13 7 rfl ?_
  refine zj_callF2n (pc := 16) C kv_X4_66 (m_X5_copyFrom) dX4_workOutWithout_16 1 8 rfl rfl rfl rfl rfl rfl rfl rfl rfl ⟨0, rfl⟩ rfl rfl ?_
  refine zj_aload_n (pc := 19) C dX4_workOutWithout_19 rfl ?_
  refine gf_X4_0 (pc := 20) C dX4_workOutWithout_20 0 rfl ?_
  refine zj_iload (pc := 23) C dX4_workOutWithout_23 rfl ?_
  refine zj_callF1n (pc := 25) C kv_X4_40 (m_X5_clear (by omega)) dX4_workOutWithout_25 1 rfl rfl rfl rfl rfl rfl rfl ⟨0, rfl⟩ rfl rfl ?_
  refine zj_iconst (pc := 28) (v := 0) C dX4_workOutWithout_28 (by decide) ?_
  refine zj_istore (pc := 29) C dX4_workOutWithout_29 (Nat.le_of_ble_eq_true rfl) ?_
  refine zj_keep [true, true, true, true, true, true] ?_
  refine zj_blk (bs' := [[((a 0), .inr (4, [.ref (a 1), .ref (a 3), .ref (a 5), .ref (a 7), .ref (a 9), .int (nI n)]))], ways G (a 1) (a 2) (WOI g D2 (lnC g lo0 3) lo0 (0)), tbl G (a 3) (a 4) 14 (nI 1) (nF di) 0, tbl G (a 5) (a 6) 4 (nI 1) (nF ga) 0, tbl G (a 7) (a 8) 168 (nI 12) (nF su) 0, tbl G (a 9) (a 10) 168 (nI 12) (nF ru) 0, plan G b P, [((o 0), .inr (4, [.ref (o 1), .ref (o 3), .ref (o 5), .ref (o 7), .ref (o 9), .int (nI n2)]))], ways G (o 1) (o 2) D2, tbl G (o 3) (o 4) 14 (nI 1) (nF di2) 0, tbl G (o 5) (o 6) 4 (nI 1) (nF ga2) 0, tbl G (o 7) (o 8) 168 (nI 12) (nF su2) 0, tbl G (o 9) (o 10) 168 (nI 12) (nF ru2) 0]) (by rw [← WOI_0]; rfl) ?_
  refine zj_loopW (σ := Nat) (fun x => x ≤ kL g) (fun x => kL g - x) (fun x => [[((a 0), .inr (4, [.ref (a 1), .ref (a 3), .ref (a 5), .ref (a 7), .ref (a 9), .int (nI n)]))], ways G (a 1) (a 2) (WOI g D2 (lnC g lo0 3) lo0 (x)), tbl G (a 3) (a 4) 14 (nI 1) (nF di) 0, tbl G (a 5) (a 6) 4 (nI 1) (nF ga) 0, tbl G (a 7) (a 8) 168 (nI 12) (nF su) 0, tbl G (a 9) (a 10) 168 (nI 12) (nF ru) 0, plan G b P, [((o 0), .inr (4, [.ref (o 1), .ref (o 3), .ref (o 5), .ref (o 7), .ref (o 9), .int (nI n2)]))], ways G (o 1) (o 2) D2, tbl G (o 3) (o 4) 14 (nI 1) (nF di2) 0, tbl G (o 5) (o 6) 4 (nI 1) (nF ga2) 0, tbl G (o 7) (o 8) 168 (nI 12) (nF su2) 0, tbl G (o 9) (o 10) 168 (nI 12) (nF ru2) 0]) (fun x => [some (.ref (a 0)), some (.ref (b 0)), some (.ref (o 0)), some (.int (nI lo0)), some (.int (nI (lnC g lo0 3))), some (.int (nI (x)))]) ?_ 0 (Nat.zero_le _)
  intro i hi ih
  refine zj_iload (pc := 31) C dX4_workOutWithout_31 rfl ?_
  refine zj_aload_n (pc := 33) C dX4_workOutWithout_33 rfl ?_
  refine zj_callP1 (pc := 34) C kv_X4_44 (m_X1_laneCount hP) dX4_workOutWithout_34 6 rfl rfl rfl rfl rfl rfl rfl ⟨0, rfl⟩ rfl rfl ?_
  refine zj_icmp_ge (pc := 37) 82 C dX4_workOutWithout_37 (by decide) (fun c_37 => ?_) (fun c_37 => ?_)
  · refine zj_blk (bs' := [[((a 0), .inr (4, [.ref (a 1), .ref (a 3), .ref (a 5), .ref (a 7), .ref (a 9), .int (nI n)]))], ways G (a 1) (a 2) (WOI g D2 (lnC g lo0 3) lo0 (kL g)), tbl G (a 3) (a 4) 14 (nI 1) (nF di) 0, tbl G (a 5) (a 6) 4 (nI 1) (nF ga) 0, tbl G (a 7) (a 8) 168 (nI 12) (nF su) 0, tbl G (a 9) (a 10) 168 (nI 12) (nF ru) 0, plan G b P, [((o 0), .inr (4, [.ref (o 1), .ref (o 3), .ref (o 5), .ref (o 7), .ref (o 9), .int (nI n2)]))], ways G (o 1) (o 2) D2, tbl G (o 3) (o 4) 14 (nI 1) (nF di2) 0, tbl G (o 5) (o 6) 4 (nI 1) (nF ga2) 0, tbl G (o 7) (o 8) 168 (nI 12) (nF su2) 0, tbl G (o 9) (o 10) 168 (nI 12) (nF ru2) 0]) (by rw [show i = kL g from Nat.le_antisymm hi (zle c_37 (by omega))]) ?_
    have hT2 : TBd (WOI g D2 (lnC g lo0 3) lo0 (kL g)) di ga su ru := ⟨WOI_WB hv hB2 (Nat.le_refl _), hT.2⟩
    refine zj_aload_n (pc := 82) C dX4_workOutWithout_82 rfl ?_
    refine zj_aload_n (pc := 83) C dX4_workOutWithout_83 rfl ?_
    refine zj_callA (pc := 84) C kv_X4_62 (m_X4_sumUp hT2 hP hv) dX4_workOutWithout_84 [0, 1, 2, 3, 4, 5, 6] [7, 8, 9, 10, 11, 12] rfl rfl rfl rfl rfl rfl rfl rfl ⟨0, rfl⟩ rfl rfl (fun v w1 hq => ?_)
    obtain ⟨rfl, rfl⟩ := hq
    refine zj_blk (bs' := [tot G a (WOI g D2 (lnC g lo0 3) lo0 (kL g)) (dsV (WOI g D2 (lnC g lo0 3) lo0 (kL g))) (gaV (WOI g D2 (lnC g lo0 3) lo0 (kL g))) (suI su (tSg g (WOI g D2 (lnC g lo0 3) lo0 (kL g))) (kA g)) (suI ru (tRg g (WOI g D2 (lnC g lo0 3) lo0 (kL g))) (kA g)) (kA g) ++ (plan G b P ++ tot G o D2 di2 ga2 su2 ru2 n2)]) rfl ?_
    refine zj_vretF C hr hlocks dX4_workOutWithout_87 ?_
    exact rfl
  · have hil : i < kL g := zlt c_37 (by omega)
    have q3 := V_cell hv hil (c := 3) (by decide)
    refine zj_iload (pc := 40) C dX4_workOutWithout_40 rfl ?_
    refine zj_iload_n (pc := 42) C dX4_workOutWithout_42 rfl ?_
    refine zj_icmp_eq (pc := 43) 76 C dX4_workOutWithout_43 (by decide) (fun c_43 => ?_) (fun c_43 => ?_)
    · refine zj_iinc (pc := 76) (v := nI (i + 1)) C dX4_workOutWithout_76 rfl (nI_1 _) ?_
      refine zj_goto (pc := 79) (tgt := 31) C dX4_workOutWithout_79 (by decide) ?_
      refine zj_blk (bs' := [[((a 0), .inr (4, [.ref (a 1), .ref (a 3), .ref (a 5), .ref (a 7), .ref (a 9), .int (nI n)]))], ways G (a 1) (a 2) (WOI g D2 (lnC g lo0 3) lo0 (i + 1)), tbl G (a 3) (a 4) 14 (nI 1) (nF di) 0, tbl G (a 5) (a 6) 4 (nI 1) (nF ga) 0, tbl G (a 7) (a 8) 168 (nI 12) (nF su) 0, tbl G (a 9) (a 10) 168 (nI 12) (nF ru) 0, plan G b P, [((o 0), .inr (4, [.ref (o 1), .ref (o 3), .ref (o 5), .ref (o 7), .ref (o 9), .int (nI n2)]))], ways G (o 1) (o 2) D2, tbl G (o 3) (o 4) 14 (nI 1) (nF di2) 0, tbl G (o 5) (o 6) 4 (nI 1) (nF ga2) 0, tbl G (o 7) (o 8) 168 (nI 12) (nF su2) 0, tbl G (o 9) (o 10) 168 (nI 12) (nF ru2) 0]) (by rw [← WOI_f (by rw [nI_eq (by omega) (by omega)] at c_43; simp [pW, c_43])]) ?_
      exact ih (i + 1) hil (by omega)
    · refine zj_aload_n (pc := 46) C dX4_workOutWithout_46 rfl ?_
      refine zj_iload (pc := 47) C dX4_workOutWithout_47 rfl ?_
      refine zj_iconst (pc := 49) (v := 3) C dX4_workOutWithout_49 (by decide) ?_
      refine zj_callP1 (pc := 50) C kv_X4_54 (m_X1_laneCell hP hv hil (c := 3) (by decide)) dX4_workOutWithout_50 6 rfl rfl rfl rfl rfl rfl rfl ⟨0, rfl⟩ rfl rfl ?_
      refine zj_top (x' := nI (lnC g i 3)) rfl ?_
      refine zj_iload (pc := 53) C dX4_workOutWithout_53 rfl ?_
      refine zj_icmp_ne (pc := 55) 76 C dX4_workOutWithout_55 (by decide) (fun c_55 => ?_) (fun c_55 => ?_)
      · refine zj_iinc (pc := 76) (v := nI (i + 1)) C dX4_workOutWithout_76 rfl (nI_1 _) ?_
        refine zj_goto (pc := 79) (tgt := 31) C dX4_workOutWithout_79 (by decide) ?_
        refine zj_blk (bs' := [[((a 0), .inr (4, [.ref (a 1), .ref (a 3), .ref (a 5), .ref (a 7), .ref (a 9), .int (nI n)]))], ways G (a 1) (a 2) (WOI g D2 (lnC g lo0 3) lo0 (i + 1)), tbl G (a 3) (a 4) 14 (nI 1) (nF di) 0, tbl G (a 5) (a 6) 4 (nI 1) (nF ga) 0, tbl G (a 7) (a 8) 168 (nI 12) (nF su) 0, tbl G (a 9) (a 10) 168 (nI 12) (nF ru) 0, plan G b P, [((o 0), .inr (4, [.ref (o 1), .ref (o 3), .ref (o 5), .ref (o 7), .ref (o 9), .int (nI n2)]))], ways G (o 1) (o 2) D2, tbl G (o 3) (o 4) 14 (nI 1) (nF di2) 0, tbl G (o 5) (o 6) 4 (nI 1) (nF ga2) 0, tbl G (o 7) (o 8) 168 (nI 12) (nF su2) 0, tbl G (o 9) (o 10) 168 (nI 12) (nF ru2) 0]) (by rw [← WOI_f (by rw [nI_eq (by omega) (by omega)] at c_55; simp [pW, c_55])]) ?_
        exact ih (i + 1) hil (by omega)
      · refine zj_aload_n (pc := 58) C dX4_workOutWithout_58 rfl ?_
        refine zj_iload (pc := 59) C dX4_workOutWithout_59 rfl ?_
        refine zj_callP1 (pc := 61) C kv_X4_50 (m_X1_isTold hP hv hil) dX4_workOutWithout_61 6 rfl rfl rfl rfl rfl rfl rfl ⟨0, rfl⟩ rfl rfl ?_
        refine zj_ifb_eq (pc := 64) 76 C dX4_workOutWithout_64 (by decide) (fun c_64 => ?_) (fun c_64 => ?_)
        · refine zj_iinc (pc := 76) (v := nI (i + 1)) C dX4_workOutWithout_76 rfl (nI_1 _) ?_
          refine zj_goto (pc := 79) (tgt := 31) C dX4_workOutWithout_79 (by decide) ?_
          refine zj_blk (bs' := [[((a 0), .inr (4, [.ref (a 1), .ref (a 3), .ref (a 5), .ref (a 7), .ref (a 9), .int (nI n)]))], ways G (a 1) (a 2) (WOI g D2 (lnC g lo0 3) lo0 (i + 1)), tbl G (a 3) (a 4) 14 (nI 1) (nF di) 0, tbl G (a 5) (a 6) 4 (nI 1) (nF ga) 0, tbl G (a 7) (a 8) 168 (nI 12) (nF su) 0, tbl G (a 9) (a 10) 168 (nI 12) (nF ru) 0, plan G b P, [((o 0), .inr (4, [.ref (o 1), .ref (o 3), .ref (o 5), .ref (o 7), .ref (o 9), .int (nI n2)]))], ways G (o 1) (o 2) D2, tbl G (o 3) (o 4) 14 (nI 1) (nF di2) 0, tbl G (o 5) (o 6) 4 (nI 1) (nF ga2) 0, tbl G (o 7) (o 8) 168 (nI 12) (nF su2) 0, tbl G (o 9) (o 10) 168 (nI 12) (nF ru2) 0]) (by rw [← WOI_f (by simp [pW, c_64])]) ?_
          exact ih (i + 1) hil (by omega)
        · rw [nI_eq (by omega) (by omega)] at c_43
          rw [nI_eq (by omega) (by omega)] at c_55
          have hpw : pW g (lnC g lo0 3) lo0 i = true := by simp [pW, c_43, c_55, c_64]
          refine zj_aload_n (pc := 67) C dX4_workOutWithout_67 rfl ?_
          refine zj_aload_n (pc := 68) C dX4_workOutWithout_68 rfl ?_
          refine zj_iload (pc := 69) C dX4_workOutWithout_69 rfl ?_
          refine zj_iload (pc := 71) C dX4_workOutWithout_71 rfl ?_
          refine zj_callA (pc := 73) C kv_X4_58 (m_X4_joinLane (WOI_WB hv hB2 (by omega)) (WOI_MD hv (by omega)) hP hv hil (by omega)) dX4_workOutWithout_73 [0, 1, 2, 3, 4, 5, 6] [7, 8, 9, 10, 11, 12] rfl rfl rfl rfl rfl rfl rfl rfl ⟨0, rfl⟩ rfl rfl (fun v w1 hq => ?_)
          obtain ⟨rfl, rfl⟩ := hq
          refine zj_blk (bs' := [[((a 0), .inr (4, [.ref (a 1), .ref (a 3), .ref (a 5), .ref (a 7), .ref (a 9), .int (nI n)]))], ways G (a 1) (a 2) (WOI g D2 (lnC g lo0 3) lo0 (i + 1)), tbl G (a 3) (a 4) 14 (nI 1) (nF di) 0, tbl G (a 5) (a 6) 4 (nI 1) (nF ga) 0, tbl G (a 7) (a 8) 168 (nI 12) (nF su) 0, tbl G (a 9) (a 10) 168 (nI 12) (nF ru) 0, plan G b P, [((o 0), .inr (4, [.ref (o 1), .ref (o 3), .ref (o 5), .ref (o 7), .ref (o 9), .int (nI n2)]))], ways G (o 1) (o 2) D2, tbl G (o 3) (o 4) 14 (nI 1) (nF di2) 0, tbl G (o 5) (o 6) 4 (nI 1) (nF ga2) 0, tbl G (o 7) (o 8) 168 (nI 12) (nF su2) 0, tbl G (o 9) (o 10) 168 (nI 12) (nF ru2) 0]) (by rw [← WOI_t hpw]; rfl) ?_
          refine zj_iinc (pc := 76) (v := nI (i + 1)) C dX4_workOutWithout_76 rfl (nI_1 _) ?_
          refine zj_goto (pc := 79) (tgt := 31) C dX4_workOutWithout_79 (by decide) ?_
          exact ih (i + 1) hil (by omega)
