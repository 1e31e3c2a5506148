set_option maxRecDepth 100000 in
set_option maxHeartbeats 4000000 in
theorem m_X4_leadsOn {l : Launch} {G : GG} {a : Nat → Nat} {D : Nat → Nat → Nat → Nat} {di ga su ru : Nat → Nat} {n : Nat} {d x nx len e : Nat} (hT : TBd D di ga su ru) (hd : d < 5) (hx : x < 14) (hnx : nx < 14) (he : e < 14) (hlen : len ≤ 20) : zX l G yX4_leadsOn cX4_leadsOn 7 (some .boolean) 1 24 0 0 [.ref (a 0), .int (nI d), .int (nI x), .int (nI nx), .int (nI len), .int (nI e)] (tot G a D di ga su ru n) (zF (some (.int (bI (lOn D d x nx len e)))) (tot G a D di ga su ru n)) := by
  refine zj_startF RX4 (by decide +kernel) rfl rfl rfl (bs := [[((a 0), .inr (4, [.ref (a 1), .ref (a 3), .ref (a 5), .ref (a 7), .ref (a 9), .int (nI n)]))], ways G (a 1) (a 2) D, tbl G (a 3) (a 4) 14 (nI 1) (nF di) 0, tbl G (a 5) (a 6) 4 (nI 1) (nF ga) 0, tbl G (a 7) (a 8) 168 (nI 12) (nF su) 0, tbl G (a 9) (a 10) 168 (nI 12) (nF ru) 0]) rfl (lo := [some (.ref (a 0)), some (.int (nI d)), some (.int (nI x)), some (.int (nI nx)), some (.int (nI len)), some (.int (nI e)), none]) rfl ?_
  intro p0 e0 s0 m0 args0 below0 meth0 c0 A0 C hr hlocks
  have w1 := hT.1 d x e hd hx he
  have w2 := hT.1 d nx e hd hnx he
  refine zj_aload_n (pc := 0) C dX4_leadsOn_0 rfl ?_
  refine gf_X4_0 (pc := 1) C dX4_leadsOn_1 0 rfl ?_
  refine zj_iload_n (pc := 4) C dX4_leadsOn_4 rfl ?_
  refine zj_iload_n (pc := 5) C dX4_leadsOn_5 rfl ?_
  refine zj_iload (pc := 6) C dX4_leadsOn_6 rfl ?_
  refine zj_callP1 (pc := 8) C kv_X4_89 (m_X5_between hd hx he) dX4_leadsOn_8 1 rfl rfl rfl rfl rfl rfl rfl ⟨0, rfl⟩ rfl rfl ?_
  refine zj_istore (pc := 11) C dX4_leadsOn_11 (Nat.le_of_ble_eq_true rfl) ?_
  refine zj_iload (pc := 13) C dX4_leadsOn_13 rfl ?_
  refine zj_ldc (pc := 15) (v := 1000000) C dX4_leadsOn_15 aq_325 ?_
  refine zj_icmp_ge (pc := 17) 43 C dX4_leadsOn_17 (by decide) (fun c_17 => ?_) (fun c_17 => ?_)
  · refine zj_iconst (pc := 43) (v := 0) C dX4_leadsOn_43 (by decide) ?_
    refine zj_zretF C hr hlocks dX4_leadsOn_44 ?_ rfl
    rw [show (1000000 : Int32) = nI 1000000 from rfl, nI_leI (by omega) (by omega)] at c_17
    simp [lOn, bI, Nat.not_lt.mpr c_17]
  · refine zj_iload (pc := 20) C dX4_leadsOn_20 rfl ?_
    refine zj_aload_n (pc := 22) C dX4_leadsOn_22 rfl ?_
    refine gf_X4_0 (pc := 23) C dX4_leadsOn_23 0 rfl ?_
    refine zj_iload_n (pc := 26) C dX4_leadsOn_26 rfl ?_
    refine zj_iload_n (pc := 27) C dX4_leadsOn_27 rfl ?_
    refine zj_iload (pc := 28) C dX4_leadsOn_28 rfl ?_
    refine zj_callP1 (pc := 30) C kv_X4_89 (m_X5_between hd hnx he) dX4_leadsOn_30 1 rfl rfl rfl rfl rfl rfl rfl ⟨0, rfl⟩ rfl rfl ?_
    refine zj_iadd (pc := 33) C dX4_leadsOn_33 ?_
    refine zj_top (x' := nI (len + D d nx e)) (nI_add _ _) ?_
    refine zj_iload (pc := 34) C dX4_leadsOn_34 rfl ?_
    refine zm_icmp_ne_0 (pc := 36) C dX4_leadsOn_36 dX4_leadsOn_39 dX4_leadsOn_40 dX4_leadsOn_43 ?_
    refine zj_zretF C hr hlocks dX4_leadsOn_44 ?_ rfl
    rw [show (1000000 : Int32) = nI 1000000 from rfl, nI_leI (by omega) (by omega)] at c_17
    simp [lOn, nI_eq (show len + D d nx e < 2 ^ 31 by omega) (show D d x e < 2 ^ 31 by omega), Nat.not_le.mp c_17]
set_option maxRecDepth 100000 in
set_option maxHeartbeats 4000000 in
theorem m_X4_leastOverBackbone {l : Launch} {G : GG} {a : Nat → Nat} {D : Nat → Nat → Nat → Nat} {di ga su ru : Nat → Nat} {n : Nat} {y d e : Nat} (hT : TBd D di ga su ru) (hy : y < 14) (hd : d < 4) (he : e < 14) : zX l G yX4_leastOverBackbone cX4_leastOverBackbone 8 (some .int) 1 24 0 0 [.ref (a 0), .int (nI y), .int (nI d), .int (nI e)] (tot G a D di ga su ru n) (zF (some (.int (nI (lOB D ga y d e)))) (tot G a D di ga su ru n)) := by
  refine zj_startF RX4 (by decide +kernel) rfl rfl rfl (bs := [[((a 0), .inr (4, [.ref (a 1), .ref (a 3), .ref (a 5), .ref (a 7), .ref (a 9), .int (nI n)]))], ways G (a 1) (a 2) D, tbl G (a 3) (a 4) 14 (nI 1) (nF di) 0, tbl G (a 5) (a 6) 4 (nI 1) (nF ga) 0, tbl G (a 7) (a 8) 168 (nI 12) (nF su) 0, tbl G (a 9) (a 10) 168 (nI 12) (nF ru) 0]) rfl (lo := [some (.ref (a 0)), some (.int (nI y)), some (.int (nI d)), some (.int (nI e)), none, none, none, none]) rfl ?_
  intro p0 e0 s0 m0 args0 below0 meth0 c0 A0 C hr hlocks
  have hga := hT.2.2.1 d hd
  refine zj_ldc (pc := 0) (v := 1000000) C dX4_leastOverBackbone_0 aq_325 ?_
  refine zj_istore (pc := 2) C dX4_leastOverBackbone_2 (Nat.le_of_ble_eq_true rfl) ?_
  refine zj_aload_n (pc := 4) C dX4_leastOverBackbone_4 rfl ?_
  refine gf_X4_2 (pc := 5) C dX4_leastOverBackbone_5 0 rfl ?_
  refine zj_iload_n (pc := 8) C dX4_leastOverBackbone_8 rfl ?_
  refine zj_iconst (pc := 9) (v := 0) C dX4_leastOverBackbone_9 (by decide) ?_
  refine zj_callP1 (pc := 10) C kv_X4_100 (m_X2_at (by decide)) dX4_leastOverBackbone_10 3 rfl rfl rfl rfl rfl rfl rfl ⟨0, rfl⟩ rfl rfl ?_
  refine zj_top (x' := nI (ga d)) (tAt_1 hd (by decide)) ?_
  refine zj_istore (pc := 13) C dX4_leastOverBackbone_13 (Nat.le_of_ble_eq_true rfl) ?_
  refine zj_iconst (pc := 15) (v := 0) C dX4_leastOverBackbone_15 (by decide) ?_
  refine zj_istore (pc := 16) C dX4_leastOverBackbone_16 (Nat.le_of_ble_eq_true rfl) ?_
  refine zj_keep [true, true, true, true, true, true, true, false] ?_
  refine zj_loopW (σ := Nat) (fun x => x ≤ 14) (fun x => 14 - x) (fun x => [[((a 0), .inr (4, [.ref (a 1), .ref (a 3), .ref (a 5), .ref (a 7), .ref (a 9), .int (nI n)]))], ways G (a 1) (a 2) D, tbl G (a 3) (a 4) 14 (nI 1) (nF di) 0, tbl G (a 5) (a 6) 4 (nI 1) (nF ga) 0, tbl G (a 7) (a 8) 168 (nI 12) (nF su) 0, tbl G (a 9) (a 10) 168 (nI 12) (nF ru) 0]) (fun x => [some (.ref (a 0)), some (.int (nI y)), some (.int (nI d)), some (.int (nI e)), some (.int (nI (minA 1000000 (fun k => bitB (ga d) k) (fun k => D 0 y k + D d k e) (x)))), some (.int (nI (ga d))), some (.int (nI (x))), none]) ?_ 0 (Nat.zero_le _)
  intro i hi ih
  have hm := minA_le 1000000 (fun k => bitB (ga d) k) (fun k => D 0 y k + D d k e) i
  refine zj_iload (pc := 18) C dX4_leastOverBackbone_18 rfl ?_
  refine zj_bipush (pc := 20) (v := 14) C dX4_leastOverBackbone_20 (by decide) ?_
  refine zj_icmp_ge (pc := 22) 75 C dX4_leastOverBackbone_22 (by decide) (fun c_22 => ?_) (fun c_22 => ?_)
  · refine zj_iload (pc := 75) C dX4_leastOverBackbone_75 rfl ?_
    refine zj_iretF C hr hlocks dX4_leastOverBackbone_77 ?_ rfl
    rw [show i = 14 from Nat.le_antisymm hi (zle c_22 (by omega))]
    exact rfl
  · have hlt : i < 14 := zlt c_22 (by omega)
    refine zj_iload (pc := 25) C dX4_leastOverBackbone_25 rfl ?_
    refine zj_iload (pc := 27) C dX4_leastOverBackbone_27 rfl ?_
    refine zj_ishr (pc := 29) C dX4_leastOverBackbone_29 ?_
    refine zj_iconst (pc := 30) (v := 1) C dX4_leastOverBackbone_30 (by decide) ?_
    refine zj_iand (pc := 31) C dX4_leastOverBackbone_31 ?_
    refine zj_if_eq (pc := 32) 69 C dX4_leastOverBackbone_32 (by decide) (fun c_32 => ?_) (fun c_32 => ?_)
    · have hbit : bitB (ga d) i = false := (bitB_0 (by omega) (by omega)).mp c_32
      refine zj_iinc (pc := 69) (v := nI (i + 1)) C dX4_leastOverBackbone_69 rfl (nI_1 _) ?_
      refine zj_goto (pc := 72) (tgt := 18) C dX4_leastOverBackbone_72 (by decide) ?_
      refine zj_keep [true, true, true, true, true, true, true, false] ?_
      exact zj_loc (lo' := [some (.ref (a 0)), some (.int (nI y)), some (.int (nI d)), some (.int (nI e)), some (.int (nI (minA 1000000 (fun k => bitB (ga d) k) (fun k => D 0 y k + D d k e) (i + 1)))), some (.int (nI (ga d))), some (.int (nI (i + 1))), none]) (by rw [minA_f (p := fun k => bitB (ga d) k) hbit]; rfl) (ih (i + 1) hlt (by omega))
    · have hbit : bitB (ga d) i = true := by
        cases h : bitB (ga d) i with
        | true => rfl
        | false => exact absurd ((bitB_0 (by omega) (by omega)).mpr h) c_32
      have w1 := hT.1 0 y i (by decide) hy hlt
      have w2 := hT.1 d i e (by omega) hlt he
      refine zj_aload_n (pc := 35) C dX4_leastOverBackbone_35 rfl ?_
      refine gf_X4_0 (pc := 36) C dX4_leastOverBackbone_36 0 rfl ?_
      refine zj_iconst (pc := 39) (v := 0) C dX4_leastOverBackbone_39 (by decide) ?_
      refine zj_iload_n (pc := 40) C dX4_leastOverBackbone_40 rfl ?_
      refine zj_iload (pc := 41) C dX4_leastOverBackbone_41 rfl ?_
      refine zj_callP1 (pc := 43) C kv_X4_89 (m_X5_between (d := 0) (by decide) hy hlt) dX4_leastOverBackbone_43 1 rfl rfl rfl rfl rfl rfl rfl ⟨0, rfl⟩ rfl rfl ?_
      refine zj_aload_n (pc := 46) C dX4_leastOverBackbone_46 rfl ?_
      refine gf_X4_0 (pc := 47) C dX4_leastOverBackbone_47 0 rfl ?_
      refine zj_iload_n (pc := 50) C dX4_leastOverBackbone_50 rfl ?_
      refine zj_iload (pc := 51) C dX4_leastOverBackbone_51 rfl ?_
      refine zj_iload_n (pc := 53) C dX4_leastOverBackbone_53 rfl ?_
      refine zj_callP1 (pc := 54) C kv_X4_89 (m_X5_between (by omega) hlt he) dX4_leastOverBackbone_54 1 rfl rfl rfl rfl rfl rfl rfl ⟨0, rfl⟩ rfl rfl ?_
      refine zj_iadd (pc := 57) C dX4_leastOverBackbone_57 ?_
      refine zj_top (x' := nI (D 0 y i + D d i e)) (nI_add _ _) ?_
      refine zj_istore (pc := 58) C dX4_leastOverBackbone_58 (Nat.le_of_ble_eq_true rfl) ?_
      refine zj_iload (pc := 60) C dX4_leastOverBackbone_60 rfl ?_
      refine zj_iload (pc := 62) C dX4_leastOverBackbone_62 rfl ?_
      refine zj_mmin (pc := 64) C aq_342 aq_216 aq_29 aq_217 dX4_leastOverBackbone_64 (zn_and rfl) (Nat.le_of_ble_eq_true rfl) (zn_and rfl) rfl ?_
      refine zj_top (x' := nI (min (minA 1000000 (fun k => bitB (ga d) k) (fun k => D 0 y k + D d k e) i) (D 0 y i + D d i e))) (nI_min (by omega) (by omega)) ?_
      refine zj_istore (pc := 67) C dX4_leastOverBackbone_67 (Nat.le_of_ble_eq_true rfl) ?_
      refine zj_iinc (pc := 69) (v := nI (i + 1)) C dX4_leastOverBackbone_69 rfl (nI_1 _) ?_
      refine zj_goto (pc := 72) (tgt := 18) C dX4_leastOverBackbone_72 (by decide) ?_
      refine zj_keep [true, true, true, true, true, true, true, false] ?_
      exact zj_loc (lo' := [some (.ref (a 0)), some (.int (nI y)), some (.int (nI d)), some (.int (nI e)), some (.int (nI (minA 1000000 (fun k => bitB (ga d) k) (fun k => D 0 y k + D d k e) (i + 1)))), some (.int (nI (ga d))), some (.int (nI (i + 1))), none]) (by rw [minA_t (p := fun k => bitB (ga d) k) hbit]; rfl) (ih (i + 1) hlt (by omega))
set_option maxRecDepth 100000 in
set_option maxHeartbeats 4000000 in
theorem m_X4_leastByGates {l : Launch} {G : GG} {a : Nat → Nat} {D : Nat → Nat → Nat → Nat} {di ga su ru : Nat → Nat} {n : Nat} {y al : Nat} (hT : TBd D di ga su ru) (hy : y < 14) (hal : al < 12) : zX l G yX4_leastByGates cX4_leastByGates 7 (some .int) 2 45 0 0 [.ref (a 0), .int (nI y), .int (nI al)] (tot G a D di ga su ru n) (zF (some (.int (nI (lBG D di ga su y al 3)))) (tot G a D di ga su ru n)) := by
  refine zj_startF RX4 (by decide +kernel) rfl rfl rfl (bs := [[((a 0), .inr (4, [.ref (a 1), .ref (a 3), .ref (a 5), .ref (a 7), .ref (a 9), .int (nI n)]))], ways G (a 1) (a 2) D, tbl G (a 3) (a 4) 14 (nI 1) (nF di) 0, tbl G (a 5) (a 6) 4 (nI 1) (nF ga) 0, tbl G (a 7) (a 8) 168 (nI 12) (nF su) 0, tbl G (a 9) (a 10) 168 (nI 12) (nF ru) 0]) rfl (lo := [some (.ref (a 0)), some (.int (nI y)), some (.int (nI al)), none, none, none, none]) rfl ?_
  intro p0 e0 s0 m0 args0 below0 meth0 c0 A0 C hr hlocks
  refine zj_ldc (pc := 0) (v := 1000000) C dX4_leastByGates_0 aq_325 ?_
  refine zj_istore_n (pc := 2) C dX4_leastByGates_2 (Nat.le_of_ble_eq_true rfl) ?_
  refine zj_iconst (pc := 3) (v := 1) C dX4_leastByGates_3 (by decide) ?_
  refine zj_istore (pc := 4) C dX4_leastByGates_4 (Nat.le_of_ble_eq_true rfl) ?_
  refine zj_keep [true, true, true, true, true, false, false] ?_
  refine zj_loopW (σ := Nat) (fun x => x ≤ 3) (fun x => 3 - x) (fun x => [[((a 0), .inr (4, [.ref (a 1), .ref (a 3), .ref (a 5), .ref (a 7), .ref (a 9), .int (nI n)]))], ways G (a 1) (a 2) D, tbl G (a 3) (a 4) 14 (nI 1) (nF di) 0, tbl G (a 5) (a 6) 4 (nI 1) (nF ga) 0, tbl G (a 7) (a 8) 168 (nI 12) (nF su) 0, tbl G (a 9) (a 10) 168 (nI 12) (nF ru) 0]) (fun x => [some (.ref (a 0)), some (.int (nI y)), some (.int (nI al)), some (.int (nI (lBG D di ga su y al (x)))), some (.int (nI (x + 1))), none, none]) ?_ 0 (Nat.zero_le _)
  intro k hk ih
  have hm := lBG_le D di ga su y al k
  refine zj_iload (pc := 6) C dX4_leastByGates_6 rfl ?_
  refine zj_iconst (pc := 8) (v := 4) C dX4_leastByGates_8 (by decide) ?_
  refine zj_icmp_ge (pc := 9) 94 C dX4_leastByGates_9 (by decide) (fun c_9 => ?_) (fun c_9 => ?_)
  · refine zj_iload_n (pc := 94) C dX4_leastByGates_94 rfl ?_
    refine zj_iretF C hr hlocks dX4_leastByGates_95 ?_ rfl
    rw [show k = 3 from by have := zle (b := 4) c_9 (by omega); omega]
  · have hklt : k + 1 < 4 := zlt c_9 (by omega)
    have hga := hT.2.2.1 (k + 1) hklt
    refine zj_aload_n (pc := 12) C dX4_leastByGates_12 rfl ?_
    refine zj_iload (pc := 13) C dX4_leastByGates_13 rfl ?_
    refine zj_iload_n (pc := 15) C dX4_leastByGates_15 rfl ?_
    refine zj_callPA (pc := 16) C kv_X4_93 (m_X4_isIn hklt hy (hT.2.1 y hy)) dX4_leastByGates_16 [0, 1, 2, 3, 4, 5] [] rfl rfl rfl rfl rfl rfl rfl rfl ⟨0, rfl⟩ rfl rfl ?_
    refine zj_ifb_ne (pc := 19) 25 C dX4_leastByGates_19 (by decide) (fun c_19 => ?_) (fun c_19 => ?_)
    · have hin : bitB (di y) (k + 1) = true := c_19
      refine zj_aload_n (pc := 25) C dX4_leastByGates_25 rfl ?_
      refine gf_X4_2 (pc := 26) C dX4_leastByGates_26 0 rfl ?_
      refine zj_iload (pc := 29) C dX4_leastByGates_29 rfl ?_
      refine zj_iconst (pc := 31) (v := 0) C dX4_leastByGates_31 (by decide) ?_
      refine zj_callP1 (pc := 32) C kv_X4_100 (m_X2_at (by decide)) dX4_leastByGates_32 3 rfl rfl rfl rfl rfl rfl rfl ⟨0, rfl⟩ rfl rfl ?_
      refine zj_top (x' := nI (ga (k + 1))) (tAt_1 hklt (by decide)) ?_
      refine zj_istore (pc := 35) C dX4_leastByGates_35 (Nat.le_of_ble_eq_true rfl) ?_
      refine zj_iconst (pc := 37) (v := 0) C dX4_leastByGates_37 (by decide) ?_
      refine zj_istore (pc := 38) C dX4_leastByGates_38 (Nat.le_of_ble_eq_true rfl) ?_
      refine zj_keep [true, true, true, true, true, true, true] ?_
      refine zj_loopW (σ := Nat) (fun x => x ≤ 14) (fun x => 14 - x) (fun x => [[((a 0), .inr (4, [.ref (a 1), .ref (a 3), .ref (a 5), .ref (a 7), .ref (a 9), .int (nI n)]))], ways G (a 1) (a 2) D, tbl G (a 3) (a 4) 14 (nI 1) (nF di) 0, tbl G (a 5) (a 6) 4 (nI 1) (nF ga) 0, tbl G (a 7) (a 8) 168 (nI 12) (nF su) 0, tbl G (a 9) (a 10) 168 (nI 12) (nF ru) 0]) (fun x => [some (.ref (a 0)), some (.int (nI y)), some (.int (nI al)), some (.int (nI (minA (lBG D di ga su y al k) (fun j => bitB (ga (k + 1)) j) (fun j => D (k + 1) y j + su (j * 12 + al)) (x)))), some (.int (nI (k + 1))), some (.int (nI (ga (k + 1)))), some (.int (nI (x)))]) ?_ 0 (Nat.zero_le _)
      intro j hj ihj
      have hm2 := minA_le (lBG D di ga su y al k) (fun j => bitB (ga (k + 1)) j) (fun j => D (k + 1) y j + su (j * 12 + al)) j
      refine zj_iload (pc := 40) C dX4_leastByGates_40 rfl ?_
      refine zj_bipush (pc := 42) (v := 14) C dX4_leastByGates_42 (by decide) ?_
      refine zj_icmp_ge (pc := 44) 88 C dX4_leastByGates_44 (by decide) (fun c_44 => ?_) (fun c_44 => ?_)
      · refine zj_iinc (pc := 88) (v := nI ((k + 1) + 1)) C dX4_leastByGates_88 rfl (nI_1 _) ?_
        refine zj_goto (pc := 91) (tgt := 6) C dX4_leastByGates_91 (by decide) ?_
        refine zj_keep [true, true, true, true, true, false, false] ?_
        refine zj_loc (lo' := [some (.ref (a 0)), some (.int (nI y)), some (.int (nI al)), some (.int (nI (lBG D di ga su y al (k + 1)))), some (.int (nI (k + 1 + 1))), none, none]) ?_ (ih (k + 1) (by omega) (by omega))
        rw [show lBG D di ga su y al (k + 1) = minA (lBG D di ga su y al k) (fun j => bitB (ga (k + 1)) j) (fun j => D (k + 1) y j + su (j * 12 + al)) 14 from if_pos hin, show j = 14 from Nat.le_antisymm hj (zle c_44 (by omega))]
        rfl
      · have hjlt : j < 14 := zlt c_44 (by omega)
        refine zj_iload (pc := 47) C dX4_leastByGates_47 rfl ?_
        refine zj_iload (pc := 49) C dX4_leastByGates_49 rfl ?_
        refine zj_ishr (pc := 51) C dX4_leastByGates_51 ?_
        refine zj_iconst (pc := 52) (v := 1) C dX4_leastByGates_52 (by decide) ?_
        refine zj_iand (pc := 53) C dX4_leastByGates_53 ?_
        refine zj_if_eq (pc := 54) 82 C dX4_leastByGates_54 (by decide) (fun c_54 => ?_) (fun c_54 => ?_)
        · have hbit : bitB (ga (k + 1)) j = false := (bitB_0 (by omega) (by omega)).mp c_54
          refine zj_iinc (pc := 82) (v := nI (j + 1)) C dX4_leastByGates_82 rfl (nI_1 _) ?_
          refine zj_goto (pc := 85) (tgt := 40) C dX4_leastByGates_85 (by decide) ?_
          exact zj_loc (lo' := [some (.ref (a 0)), some (.int (nI y)), some (.int (nI al)), some (.int (nI (minA (lBG D di ga su y al k) (fun j => bitB (ga (k + 1)) j) (fun j => D (k + 1) y j + su (j * 12 + al)) (j + 1)))), some (.int (nI (k + 1))), some (.int (nI (ga (k + 1)))), some (.int (nI (j + 1)))]) (by rw [minA_f (p := fun j => bitB (ga (k + 1)) j) hbit]; rfl) (ihj (j + 1) hjlt (by omega))
        · have hbit : bitB (ga (k + 1)) j = true := by
            cases h : bitB (ga (k + 1)) j with
            | true => rfl
            | false => exact absurd ((bitB_0 (by omega) (by omega)).mpr h) c_54
          have w1 := hT.1 (k + 1) y j (by omega) hy hjlt
          have w2 := hT.2.2.2.1 (j * 12 + al) (by omega)
          refine zj_iload_n (pc := 57) C dX4_leastByGates_57 rfl ?_
          refine zj_aload_n (pc := 58) C dX4_leastByGates_58 rfl ?_
          refine gf_X4_0 (pc := 59) C dX4_leastByGates_59 0 rfl ?_
          refine zj_iload (pc := 62) C dX4_leastByGates_62 rfl ?_
          refine zj_iload_n (pc := 64) C dX4_leastByGates_64 rfl ?_
          refine zj_iload (pc := 65) C dX4_leastByGates_65 rfl ?_
          refine zj_callP1 (pc := 67) C kv_X4_89 (m_X5_between (by omega) hy hjlt) dX4_leastByGates_67 1 rfl rfl rfl rfl rfl rfl rfl ⟨0, rfl⟩ rfl rfl ?_
          refine zj_aload_n (pc := 70) C dX4_leastByGates_70 rfl ?_
          refine zj_iload (pc := 71) C dX4_leastByGates_71 rfl ?_
          refine zj_iload_n (pc := 73) C dX4_leastByGates_73 rfl ?_
          refine zj_callPA (pc := 74) C kv_X4_123 (m_X4_sumFor hjlt hal) dX4_leastByGates_74 [0, 1, 2, 3, 4, 5] [] rfl rfl rfl rfl rfl rfl rfl rfl ⟨0, rfl⟩ rfl rfl ?_
          refine zj_iadd (pc := 77) C dX4_leastByGates_77 ?_
          refine zj_top (x' := nI (D (k + 1) y j + su (j * 12 + al))) (nI_add _ _) ?_
          refine zj_mmin (pc := 78) C aq_342 aq_216 aq_29 aq_217 dX4_leastByGates_78 (zn_and rfl) (Nat.le_of_ble_eq_true rfl) (zn_and rfl) rfl ?_
          refine zj_top (x' := nI (min (minA (lBG D di ga su y al k) (fun j => bitB (ga (k + 1)) j) (fun j => D (k + 1) y j + su (j * 12 + al)) j) (D (k + 1) y j + su (j * 12 + al)))) (nI_min (by omega) (by omega)) ?_
          refine zj_istore_n (pc := 81) C dX4_leastByGates_81 (Nat.le_of_ble_eq_true rfl) ?_
          refine zj_iinc (pc := 82) (v := nI (j + 1)) C dX4_leastByGates_82 rfl (nI_1 _) ?_
          refine zj_goto (pc := 85) (tgt := 40) C dX4_leastByGates_85 (by decide) ?_
          exact zj_loc (lo' := [some (.ref (a 0)), some (.int (nI y)), some (.int (nI al)), some (.int (nI (minA (lBG D di ga su y al k) (fun j => bitB (ga (k + 1)) j) (fun j => D (k + 1) y j + su (j * 12 + al)) (j + 1)))), some (.int (nI (k + 1))), some (.int (nI (ga (k + 1)))), some (.int (nI (j + 1)))]) (by rw [minA_t (p := fun j => bitB (ga (k + 1)) j) hbit]; rfl) (ihj (j + 1) hjlt (by omega))
    · refine zj_goto (pc := 22) (tgt := 88) C dX4_leastByGates_22 (by decide) ?_
      refine zj_iinc (pc := 88) (v := nI ((k + 1) + 1)) C dX4_leastByGates_88 rfl (nI_1 _) ?_
      refine zj_goto (pc := 91) (tgt := 6) C dX4_leastByGates_91 (by decide) ?_
      refine zj_keep [true, true, true, true, true, false, false] ?_
      refine zj_loc (lo' := [some (.ref (a 0)), some (.int (nI y)), some (.int (nI al)), some (.int (nI (lBG D di ga su y al (k + 1)))), some (.int (nI (k + 1 + 1))), none, none]) ?_ (ih (k + 1) (by omega) (by omega))
      rw [show lBG D di ga su y al (k + 1) = lBG D di ga su y al k from if_neg (by rw [c_19]; decide)]
      rfl
set_option maxRecDepth 100000 in
set_option maxHeartbeats 4000000 in
theorem m_X4_leadsOverBackbone {l : Launch} {G : GG} {a : Nat → Nat} {D : Nat → Nat → Nat → Nat} {di ga su ru : Nat → Nat} {n : Nat} {b : Nat → Nat} {P : PC} {g : Nat → Nat} {y nx len al : Nat} (hT : TBd D di ga su ru) (hP : PR g P) (hv : Vg g) (hy : y < 14) (hnx : nx < 14) (hlen : len ≤ 20) (hal : al < kA g) : zX l G yX4_leadsOverBackbone cX4_leadsOverBackbone 10 (some .boolean) 2 50 0 0 [.ref (a 0), .ref (b 0), .int (nI y), .int (nI nx), .int (nI len), .int (nI al)] (tot G a D di ga su ru n ++ plan G b P) (zF (some (.int (bI (lVB D ga su y nx len al (alC g al 0) (alC g al 1) (alC g al 2))))) (tot G a D di ga su ru n ++ plan G b P)) := by
  refine zj_startF RX4 (by decide +kernel) rfl rfl rfl (bs := [[((a 0), .inr (4, [.ref (a 1), .ref (a 3), .ref (a 5), .ref (a 7), .ref (a 9), .int (nI n)]))], ways G (a 1) (a 2) D, tbl G (a 3) (a 4) 14 (nI 1) (nF di) 0, tbl G (a 5) (a 6) 4 (nI 1) (nF ga) 0, tbl G (a 7) (a 8) 168 (nI 12) (nF su) 0, tbl G (a 9) (a 10) 168 (nI 12) (nF ru) 0, plan G b P]) rfl (lo := [some (.ref (a 0)), some (.ref (b 0)), some (.int (nI y)), some (.int (nI nx)), some (.int (nI len)), some (.int (nI al)), none, none, none, none]) rfl ?_
  intro p0 e0 s0 m0 args0 below0 meth0 c0 A0 C hr hlocks
  have hk := hv.2.1
  obtain ⟨v0, v1, v2⟩ := hv.2.2.2.2 al hal
  have hga := hT.2.2.1 (alC g al 2) v2
  have w0 := hT.2.2.2.1 (y * 12 + al) (by omega)
  refine zj_aload_n (pc := 0) C dX4_leadsOverBackbone_0 rfl ?_
  refine zj_iload (pc := 1) C dX4_leadsOverBackbone_1 rfl ?_
  refine zj_iconst (pc := 3) (v := 0) C dX4_leadsOverBackbone_3 (by decide) ?_
  refine zj_callP1 (pc := 4) C kv_X4_103 (m_X1_alleyCell hP hv hal (c := 0) (by decide)) dX4_leadsOverBackbone_4 6 rfl rfl rfl rfl rfl rfl rfl ⟨0, rfl⟩ rfl rfl ?_
  refine zj_istore (pc := 7) C dX4_leadsOverBackbone_7 (Nat.le_of_ble_eq_true rfl) ?_
  refine zj_aload_n (pc := 9) C dX4_leadsOverBackbone_9 rfl ?_
  refine zj_iload (pc := 10) C dX4_leadsOverBackbone_10 rfl ?_
  refine zj_iconst (pc := 12) (v := 2) C dX4_leadsOverBackbone_12 (by decide) ?_
  refine zj_callP1 (pc := 13) C kv_X4_103 (m_X1_alleyCell hP hv hal (c := 2) (by decide)) dX4_leadsOverBackbone_13 6 rfl rfl rfl rfl rfl rfl rfl ⟨0, rfl⟩ rfl rfl ?_
  refine zj_istore (pc := 16) C dX4_leadsOverBackbone_16 (Nat.le_of_ble_eq_true rfl) ?_
  refine zj_aload_n (pc := 18) C dX4_leadsOverBackbone_18 rfl ?_
  refine zj_iload_n (pc := 19) C dX4_leadsOverBackbone_19 rfl ?_
  refine zj_iload (pc := 20) C dX4_leadsOverBackbone_20 rfl ?_
  refine zj_callPA (pc := 22) C kv_X4_123 (m_X4_sumFor hy (by omega)) dX4_leadsOverBackbone_22 [0, 1, 2, 3, 4, 5] [6] rfl rfl rfl rfl rfl rfl rfl rfl ⟨0, rfl⟩ rfl rfl ?_
  refine zj_aload_n (pc := 25) C dX4_leadsOverBackbone_25 rfl ?_
  refine zj_iload (pc := 26) C dX4_leadsOverBackbone_26 rfl ?_
  refine zj_iconst (pc := 28) (v := 1) C dX4_leadsOverBackbone_28 (by decide) ?_
  refine zj_callP1 (pc := 29) C kv_X4_103 (m_X1_alleyCell hP hv hal (c := 1) (by decide)) dX4_leadsOverBackbone_29 6 rfl rfl rfl rfl rfl rfl rfl ⟨0, rfl⟩ rfl rfl ?_
  refine zj_isub (pc := 32) C dX4_leadsOverBackbone_32 ?_
  refine zj_istore (pc := 33) C dX4_leadsOverBackbone_33 (Nat.le_of_ble_eq_true rfl) ?_
  refine zj_iconst (pc := 35) (v := 0) C dX4_leadsOverBackbone_35 (by decide) ?_
  refine zj_istore (pc := 36) C dX4_leadsOverBackbone_36 (Nat.le_of_ble_eq_true rfl) ?_
  refine zj_keep [true, true, true, true, true, true, true, true, true, true] ?_
  refine zj_loopW (σ := Nat) (fun x => x ≤ 14 ∧ anyB (fun k => bitB (ga (alC g al 2)) k && (lOn D 0 y nx len k && decide (D 0 y k + D (alC g al 2) k (alC g al 0) + alC g al 1 = su (y * 12 + al)))) x = false) (fun x => 14 - x) (fun x => [[((a 0), .inr (4, [.ref (a 1), .ref (a 3), .ref (a 5), .ref (a 7), .ref (a 9), .int (nI n)]))], ways G (a 1) (a 2) D, tbl G (a 3) (a 4) 14 (nI 1) (nF di) 0, tbl G (a 5) (a 6) 4 (nI 1) (nF ga) 0, tbl G (a 7) (a 8) 168 (nI 12) (nF su) 0, tbl G (a 9) (a 10) 168 (nI 12) (nF ru) 0, plan G b P]) (fun x => [some (.ref (a 0)), some (.ref (b 0)), some (.int (nI y)), some (.int (nI nx)), some (.int (nI len)), some (.int (nI al)), some (.int (nI (alC g al 0))), some (.int (nI (alC g al 2))), some (.int (nI (su (y * 12 + al)) - nI (alC g al 1))), some (.int (nI (x)))]) ?_ 0 ⟨Nat.zero_le _, rfl⟩
  intro i hi ih
  obtain ⟨hi, hany⟩ := hi
  refine zj_iload (pc := 38) C dX4_leadsOverBackbone_38 rfl ?_
  refine zj_bipush (pc := 40) (v := 14) C dX4_leadsOverBackbone_40 (by decide) ?_
  refine zj_icmp_ge (pc := 42) 111 C dX4_leadsOverBackbone_42 (by decide) (fun c_42 => ?_) (fun c_42 => ?_)
  · refine zj_iconst (pc := 111) (v := 0) C dX4_leadsOverBackbone_111 (by decide) ?_
    refine zj_zretF C hr hlocks dX4_leadsOverBackbone_112 ?_ rfl
    rw [show lVB D ga su y nx len al (alC g al 0) (alC g al 1) (alC g al 2) = false by rw [← hany, show i = 14 from Nat.le_antisymm hi (zle c_42 (by omega))]; rfl]
    exact rfl
  · have hlt : i < 14 := zlt c_42 (by omega)
    refine zj_aload_n (pc := 45) C dX4_leadsOverBackbone_45 rfl ?_
    refine zj_iload (pc := 46) C dX4_leadsOverBackbone_46 rfl ?_
    refine zj_iload (pc := 48) C dX4_leadsOverBackbone_48 rfl ?_
    refine zj_callPA (pc := 50) C kv_X4_143 (m_X4_isGate v2 hlt hga) dX4_leadsOverBackbone_50 [0, 1, 2, 3, 4, 5] [6] rfl rfl rfl rfl rfl rfl rfl rfl ⟨0, rfl⟩ rfl rfl ?_
    refine zj_ifb_eq (pc := 53) 105 C dX4_leadsOverBackbone_53 (by decide) (fun c_53 => ?_) (fun c_53 => ?_)
    · refine zj_iinc (pc := 105) (v := nI (i + 1)) C dX4_leadsOverBackbone_105 rfl (nI_1 _) ?_
      refine zj_goto (pc := 108) (tgt := 38) C dX4_leadsOverBackbone_108 (by decide) ?_
      exact ih (i + 1) ⟨hlt, anyB_f hany (by simp [c_53])⟩ (by omega)
    · refine zj_aload_n (pc := 56) C dX4_leadsOverBackbone_56 rfl ?_
      refine zj_iconst (pc := 57) (v := 0) C dX4_leadsOverBackbone_57 (by decide) ?_
      refine zj_iload_n (pc := 58) C dX4_leadsOverBackbone_58 rfl ?_
      refine zj_iload_n (pc := 59) C dX4_leadsOverBackbone_59 rfl ?_
      refine zj_iload (pc := 60) C dX4_leadsOverBackbone_60 rfl ?_
      refine zj_iload (pc := 62) C dX4_leadsOverBackbone_62 rfl ?_
      refine zj_callPA (pc := 64) C kv_X4_132 (m_X4_leadsOn hT (d := 0) (by decide) hy hnx hlt hlen) dX4_leadsOverBackbone_64 [0, 1, 2, 3, 4, 5] [6] rfl rfl rfl rfl rfl rfl rfl rfl ⟨0, rfl⟩ rfl rfl ?_
      refine zj_ifb_ne (pc := 67) 73 C dX4_leadsOverBackbone_67 (by decide) (fun c_67 => ?_) (fun c_67 => ?_)
      · have w1 := hT.1 0 y i (by decide) hy hlt
        have w2 := hT.1 (alC g al 2) i (alC g al 0) (by omega) hlt v0
        refine zj_aload_n (pc := 73) C dX4_leadsOverBackbone_73 rfl ?_
        refine gf_X4_0 (pc := 74) C dX4_leadsOverBackbone_74 0 rfl ?_
        refine zj_iconst (pc := 77) (v := 0) C dX4_leadsOverBackbone_77 (by decide) ?_
        refine zj_iload_n (pc := 78) C dX4_leadsOverBackbone_78 rfl ?_
        refine zj_iload (pc := 79) C dX4_leadsOverBackbone_79 rfl ?_
        refine zj_callP1 (pc := 81) C kv_X4_89 (m_X5_between (d := 0) (by decide) hy hlt) dX4_leadsOverBackbone_81 1 rfl rfl rfl rfl rfl rfl rfl ⟨0, rfl⟩ rfl rfl ?_
        refine zj_aload_n (pc := 84) C dX4_leadsOverBackbone_84 rfl ?_
        refine gf_X4_0 (pc := 85) C dX4_leadsOverBackbone_85 0 rfl ?_
        refine zj_iload (pc := 88) C dX4_leadsOverBackbone_88 rfl ?_
        refine zj_iload (pc := 90) C dX4_leadsOverBackbone_90 rfl ?_
        refine zj_iload (pc := 92) C dX4_leadsOverBackbone_92 rfl ?_
        refine zj_callP1 (pc := 94) C kv_X4_89 (m_X5_between (by omega) hlt v0) dX4_leadsOverBackbone_94 1 rfl rfl rfl rfl rfl rfl rfl ⟨0, rfl⟩ rfl rfl ?_
        refine zj_iadd (pc := 97) C dX4_leadsOverBackbone_97 ?_
        refine zj_top (x' := nI (D 0 y i + D (alC g al 2) i (alC g al 0))) (nI_add _ _) ?_
        refine zj_iload (pc := 98) C dX4_leadsOverBackbone_98 rfl ?_
        refine zj_icmp_ne (pc := 100) 105 C dX4_leadsOverBackbone_100 (by decide) (fun c_100 => ?_) (fun c_100 => ?_)
        · rw [nI_sube (by omega) (by omega) (by omega)] at c_100
          refine zj_iinc (pc := 105) (v := nI (i + 1)) C dX4_leadsOverBackbone_105 rfl (nI_1 _) ?_
          refine zj_goto (pc := 108) (tgt := 38) C dX4_leadsOverBackbone_108 (by decide) ?_
          exact ih (i + 1) ⟨hlt, anyB_f hany (by simp [c_53, c_67, c_100])⟩ (by omega)
        · rw [nI_sube (by omega) (by omega) (by omega)] at c_100
          refine zj_iconst (pc := 103) (v := 1) C dX4_leadsOverBackbone_103 (by decide) ?_
          refine zj_zretF C hr hlocks dX4_leadsOverBackbone_104 ?_ rfl
          exact congrArg bI (anyB_iff.mpr ⟨i, hlt, by simp [c_53, c_67, c_100]⟩).symm
      · refine zj_goto (pc := 70) (tgt := 105) C dX4_leadsOverBackbone_70 (by decide) ?_
        refine zj_iinc (pc := 105) (v := nI (i + 1)) C dX4_leadsOverBackbone_105 rfl (nI_1 _) ?_
        refine zj_goto (pc := 108) (tgt := 38) C dX4_leadsOverBackbone_108 (by decide) ?_
        exact ih (i + 1) ⟨hlt, anyB_f hany (by simp [c_53, c_67])⟩ (by omega)
set_option maxRecDepth 100000 in
set_option maxHeartbeats 4000000 in
theorem m_X4_leadsOut {l : Launch} {G : GG} {a : Nat → Nat} {D : Nat → Nat → Nat → Nat} {di ga su ru : Nat → Nat} {n : Nat} {d y nx len al : Nat} (hT : TBd D di ga su ru) (hd : d < 4) (hy : y < 14) (hnx : nx < 14) (hlen : len ≤ 20) (hal : al < 12) : zX l G yX4_leadsOut cX4_leadsOut 8 (some .boolean) 2 50 0 0 [.ref (a 0), .int (nI d), .int (nI y), .int (nI nx), .int (nI len), .int (nI al)] (tot G a D di ga su ru n) (zF (some (.int (bI (lOut D ga su d y nx len al)))) (tot G a D di ga su ru n)) := by
  refine zj_startF RX4 (by decide +kernel) rfl rfl rfl (bs := [[((a 0), .inr (4, [.ref (a 1), .ref (a 3), .ref (a 5), .ref (a 7), .ref (a 9), .int (nI n)]))], ways G (a 1) (a 2) D, tbl G (a 3) (a 4) 14 (nI 1) (nF di) 0, tbl G (a 5) (a 6) 4 (nI 1) (nF ga) 0, tbl G (a 7) (a 8) 168 (nI 12) (nF su) 0, tbl G (a 9) (a 10) 168 (nI 12) (nF ru) 0]) rfl (lo := [some (.ref (a 0)), some (.int (nI d)), some (.int (nI y)), some (.int (nI nx)), some (.int (nI len)), some (.int (nI al)), none, none]) rfl ?_
  intro p0 e0 s0 m0 args0 below0 meth0 c0 A0 C hr hlocks
  have hga := hT.2.2.1 d hd
  have w0 := hT.2.2.2.1 (y * 12 + al) (by omega)
  refine zj_aload_n (pc := 0) C dX4_leadsOut_0 rfl ?_
  refine zj_iload_n (pc := 1) C dX4_leadsOut_1 rfl ?_
  refine zj_iload (pc := 2) C dX4_leadsOut_2 rfl ?_
  refine zj_callPA (pc := 4) C kv_X4_123 (m_X4_sumFor hy hal) dX4_leadsOut_4 [0, 1, 2, 3, 4, 5] [] rfl rfl rfl rfl rfl rfl rfl rfl ⟨0, rfl⟩ rfl rfl ?_
  refine zj_istore (pc := 7) C dX4_leadsOut_7 (Nat.le_of_ble_eq_true rfl) ?_
  refine zj_iconst (pc := 9) (v := 0) C dX4_leadsOut_9 (by decide) ?_
  refine zj_istore (pc := 10) C dX4_leadsOut_10 (Nat.le_of_ble_eq_true rfl) ?_
  refine zj_keep [true, true, true, true, true, true, true, true] ?_
  refine zj_loopW (σ := Nat) (fun x => x ≤ 14 ∧ anyB (fun k => bitB (ga d) k && (lOn D d y nx len k && decide (D d y k + su (k * 12 + al) = su (y * 12 + al)))) x = false) (fun x => 14 - x) (fun x => [[((a 0), .inr (4, [.ref (a 1), .ref (a 3), .ref (a 5), .ref (a 7), .ref (a 9), .int (nI n)]))], ways G (a 1) (a 2) D, tbl G (a 3) (a 4) 14 (nI 1) (nF di) 0, tbl G (a 5) (a 6) 4 (nI 1) (nF ga) 0, tbl G (a 7) (a 8) 168 (nI 12) (nF su) 0, tbl G (a 9) (a 10) 168 (nI 12) (nF ru) 0]) (fun x => [some (.ref (a 0)), some (.int (nI d)), some (.int (nI y)), some (.int (nI nx)), some (.int (nI len)), some (.int (nI al)), some (.int (nI (su (y * 12 + al)))), some (.int (nI (x)))]) ?_ 0 ⟨Nat.zero_le _, rfl⟩
  intro i hi ih
  obtain ⟨hi, hany⟩ := hi
  refine zj_iload (pc := 12) C dX4_leadsOut_12 rfl ?_
  refine zj_bipush (pc := 14) (v := 14) C dX4_leadsOut_14 (by decide) ?_
  refine zj_icmp_ge (pc := 16) 79 C dX4_leadsOut_16 (by decide) (fun c_16 => ?_) (fun c_16 => ?_)
  · refine zj_iconst (pc := 79) (v := 0) C dX4_leadsOut_79 (by decide) ?_
    refine zj_zretF C hr hlocks dX4_leadsOut_80 ?_ rfl
    rw [show lOut D ga su d y nx len al = false by rw [← hany, show i = 14 from Nat.le_antisymm hi (zle c_16 (by omega))]; rfl]
    exact rfl
  · have hlt : i < 14 := zlt c_16 (by omega)
    refine zj_aload_n (pc := 19) C dX4_leadsOut_19 rfl ?_
    refine zj_iload_n (pc := 20) C dX4_leadsOut_20 rfl ?_
    refine zj_iload (pc := 21) C dX4_leadsOut_21 rfl ?_
    refine zj_callPA (pc := 23) C kv_X4_143 (m_X4_isGate hd hlt hga) dX4_leadsOut_23 [0, 1, 2, 3, 4, 5] [] rfl rfl rfl rfl rfl rfl rfl rfl ⟨0, rfl⟩ rfl rfl ?_
    refine zj_ifb_eq (pc := 26) 73 C dX4_leadsOut_26 (by decide) (fun c_26 => ?_) (fun c_26 => ?_)
    · refine zj_iinc (pc := 73) (v := nI (i + 1)) C dX4_leadsOut_73 rfl (nI_1 _) ?_
      refine zj_goto (pc := 76) (tgt := 12) C dX4_leadsOut_76 (by decide) ?_
      exact ih (i + 1) ⟨hlt, anyB_f hany (by simp [c_26])⟩ (by omega)
    · refine zj_aload_n (pc := 29) C dX4_leadsOut_29 rfl ?_
      refine zj_iload_n (pc := 30) C dX4_leadsOut_30 rfl ?_
      refine zj_iload_n (pc := 31) C dX4_leadsOut_31 rfl ?_
      refine zj_iload_n (pc := 32) C dX4_leadsOut_32 rfl ?_
      refine zj_iload (pc := 33) C dX4_leadsOut_33 rfl ?_
      refine zj_iload (pc := 35) C dX4_leadsOut_35 rfl ?_
      refine zj_callPA (pc := 37) C kv_X4_132 (m_X4_leadsOn hT (by omega) hy hnx hlt hlen) dX4_leadsOut_37 [0, 1, 2, 3, 4, 5] [] rfl rfl rfl rfl rfl rfl rfl rfl ⟨0, rfl⟩ rfl rfl ?_
      refine zj_ifb_ne (pc := 40) 46 C dX4_leadsOut_40 (by decide) (fun c_40 => ?_) (fun c_40 => ?_)
      · have w1 := hT.1 d y i (by omega) hy hlt
        have w2 := hT.2.2.2.1 (i * 12 + al) (by omega)
        refine zj_aload_n (pc := 46) C dX4_leadsOut_46 rfl ?_
        refine gf_X4_0 (pc := 47) C dX4_leadsOut_47 0 rfl ?_
        refine zj_iload_n (pc := 50) C dX4_leadsOut_50 rfl ?_
        refine zj_iload_n (pc := 51) C dX4_leadsOut_51 rfl ?_
        refine zj_iload (pc := 52) C dX4_leadsOut_52 rfl ?_
        refine zj_callP1 (pc := 54) C kv_X4_89 (m_X5_between (by omega) hy hlt) dX4_leadsOut_54 1 rfl rfl rfl rfl rfl rfl rfl ⟨0, rfl⟩ rfl rfl ?_
        refine zj_aload_n (pc := 57) C dX4_leadsOut_57 rfl ?_
        refine zj_iload (pc := 58) C dX4_leadsOut_58 rfl ?_
        refine zj_iload (pc := 60) C dX4_leadsOut_60 rfl ?_
        refine zj_callPA (pc := 62) C kv_X4_123 (m_X4_sumFor hlt hal) dX4_leadsOut_62 [0, 1, 2, 3, 4, 5] [] rfl rfl rfl rfl rfl rfl rfl rfl ⟨0, rfl⟩ rfl rfl ?_
        refine zj_iadd (pc := 65) C dX4_leadsOut_65 ?_
        refine zj_top (x' := nI (D d y i + su (i * 12 + al))) (nI_add _ _) ?_
        refine zj_iload (pc := 66) C dX4_leadsOut_66 rfl ?_
        refine zj_icmp_ne (pc := 68) 73 C dX4_leadsOut_68 (by decide) (fun c_68 => ?_) (fun c_68 => ?_)
        · rw [nI_eq (by omega) (by omega)] at c_68
          refine zj_iinc (pc := 73) (v := nI (i + 1)) C dX4_leadsOut_73 rfl (nI_1 _) ?_
          refine zj_goto (pc := 76) (tgt := 12) C dX4_leadsOut_76 (by decide) ?_
          exact ih (i + 1) ⟨hlt, anyB_f hany (by simp [c_26, c_40, c_68])⟩ (by omega)
        · rw [nI_eq (by omega) (by omega)] at c_68
          refine zj_iconst (pc := 71) (v := 1) C dX4_leadsOut_71 (by decide) ?_
          refine zj_zretF C hr hlocks dX4_leadsOut_72 ?_ rfl
          exact congrArg bI (anyB_iff.mpr ⟨i, hlt, by simp [c_26, c_40, c_68]⟩).symm
      · refine zj_goto (pc := 43) (tgt := 73) C dX4_leadsOut_43 (by decide) ?_
        refine zj_iinc (pc := 73) (v := nI (i + 1)) C dX4_leadsOut_73 rfl (nI_1 _) ?_
        refine zj_goto (pc := 76) (tgt := 12) C dX4_leadsOut_76 (by decide) ?_
        exact ih (i + 1) ⟨hlt, anyB_f hany (by simp [c_26, c_40])⟩ (by omega)
set_option maxRecDepth 100000 in
set_option maxHeartbeats 4000000 in
theorem m_X4_isStep {l : Launch} {G : GG} {a : Nat → Nat} {D : Nat → Nat → Nat → Nat} {di ga su ru : Nat → Nat} {n : Nat} {b : Nat → Nat} {P : PC} {g : Nat → Nat} {i y al : Nat} (hT : TBd D di ga su ru) (hP : PR g P) (hv : Vg g) (hi : i < 2 ^ 31) (hy : y < 14) (hal : al < kA g) : zX l G yX4_isStep cX4_isStep 8 (some .boolean) 4 89 0 0 [.ref (a 0), .ref (b 0), .int (nI i), .int (nI y), .int (nI al)] (tot G a D di ga su ru n ++ plan G b P) (zF (some (.int (bI (stp D ga su ru g i y al)))) (tot G a D di ga su ru n ++ plan G b P)) := by
  refine zj_startF RX4 (by decide +kernel) rfl rfl rfl (bs := [[((a 0), .inr (4, [.ref (a 1), .ref (a 3), .ref (a 5), .ref (a 7), .ref (a 9), .int (nI n)]))], ways G (a 1) (a 2) D, tbl G (a 3) (a 4) 14 (nI 1) (nF di) 0, tbl G (a 5) (a 6) 4 (nI 1) (nF ga) 0, tbl G (a 7) (a 8) 168 (nI 12) (nF su) 0, tbl G (a 9) (a 10) 168 (nI 12) (nF ru) 0, plan G b P]) rfl (lo := [some (.ref (a 0)), some (.ref (b 0)), some (.int (nI i)), some (.int (nI y)), some (.int (nI al)), none, none, none]) rfl ?_
  intro p0 e0 s0 m0 args0 below0 meth0 c0 A0 C hr hlocks
  have hk := hv.2.1
  obtain ⟨v0, v1, v2⟩ := hv.2.2.2.2 al hal
  have hoe : ∀ j, oeN g i y = some j → j < 2 ^ 31 := fun j h => by have := (oeN_s hv h).2; omega
  have hru := hT.2.2.2.2 (y * 12 + al) (by omega)
  refine zj_aload_n (pc := 0) C dX4_isStep_0 rfl ?_
  refine zj_iload_n (pc := 1) C dX4_isStep_1 rfl ?_
  refine zj_iload_n (pc := 2) C dX4_isStep_2 rfl ?_
  refine zj_callP1 (pc := 3) C kv_X4_126 (m_X1_otherEnd hP hv hi hy) dX4_isStep_3 6 rfl rfl rfl rfl rfl rfl rfl ⟨0, rfl⟩ rfl rfl ?_
  refine zj_istore (pc := 6) C dX4_isStep_6 (Nat.le_of_ble_eq_true rfl) ?_
  refine zj_iload (pc := 8) C dX4_isStep_8 rfl ?_
  refine zj_bipush (pc := 10) (v := (-5)) C dX4_isStep_10 (by decide) ?_
  refine zj_icmp_eq (pc := 12) 23 C dX4_isStep_12 (by decide) (fun c_12 => ?_) (fun c_12 => ?_)
  · refine zj_iconst (pc := 23) (v := 0) C dX4_isStep_23 (by decide) ?_
    refine zj_zretF C hr hlocks dX4_isStep_24 ?_ rfl
    rw [stp_n ((optI_5 hoe).mp c_12)]
    exact rfl
  · obtain ⟨nx, hnx⟩ : ∃ nx, oeN g i y = some nx := by
      cases h : oeN g i y with
      | none => exact absurd ((optI_5 hoe).mpr h) c_12
      | some j => exact ⟨j, rfl⟩
    obtain ⟨hik, hnl⟩ := oeN_s hv hnx
    obtain ⟨l0, l1, l2, l3, l4, l5, l6⟩ := hv.2.2.2.1 i hik
    refine zj_loc (lo' := [some (.ref (a 0)), some (.ref (b 0)), some (.int (nI i)), some (.int (nI y)), some (.int (nI al)), some (.int (nI nx)), none, none]) (by rw [hnx]; rfl) ?_
    refine zj_aload_n (pc := 15) C dX4_isStep_15 rfl ?_
    refine zj_iload_n (pc := 16) C dX4_isStep_16 rfl ?_
    refine zj_callP1 (pc := 17) C kv_X4_50 (m_X1_isTold hP hv hik) dX4_isStep_17 6 rfl rfl rfl rfl rfl rfl rfl ⟨0, rfl⟩ rfl rfl ?_
    refine zj_ifb_ne (pc := 20) 25 C dX4_isStep_20 (by decide) (fun c_20 => ?_) (fun c_20 => ?_)
    · refine zj_aload_n (pc := 25) C dX4_isStep_25 rfl ?_
      refine zj_iload_n (pc := 26) C dX4_isStep_26 rfl ?_
      refine zj_iconst (pc := 27) (v := 3) C dX4_isStep_27 (by decide) ?_
      refine zj_callP1 (pc := 28) C kv_X4_54 (m_X1_laneCell hP hv hik (c := 3) (by decide)) dX4_isStep_28 6 rfl rfl rfl rfl rfl rfl rfl ⟨0, rfl⟩ rfl rfl ?_
      refine zj_top (x' := nI (lnC g i 3)) rfl ?_
      refine zj_istore (pc := 31) C dX4_isStep_31 (Nat.le_of_ble_eq_true rfl) ?_
      refine zj_aload_n (pc := 33) C dX4_isStep_33 rfl ?_
      refine zj_iload_n (pc := 34) C dX4_isStep_34 rfl ?_
      refine zj_iconst (pc := 35) (v := 2) C dX4_isStep_35 (by decide) ?_
      refine zj_callP1 (pc := 36) C kv_X4_54 (m_X1_laneCell hP hv hik (c := 2) (by decide)) dX4_isStep_36 6 rfl rfl rfl rfl rfl rfl rfl ⟨0, rfl⟩ rfl rfl ?_
      refine zj_top (x' := nI (lnC g i 2)) rfl ?_
      refine zj_istore (pc := 39) C dX4_isStep_39 (Nat.le_of_ble_eq_true rfl) ?_
      refine zj_aload_n (pc := 41) C dX4_isStep_41 rfl ?_
      refine zj_iload_n (pc := 42) C dX4_isStep_42 rfl ?_
      refine zj_iload (pc := 43) C dX4_isStep_43 rfl ?_
      refine zj_callPA (pc := 45) C kv_X4_129 (m_X4_ruleFor hy (by omega)) dX4_isStep_45 [0, 1, 2, 3, 4, 5] [6] rfl rfl rfl rfl rfl rfl rfl rfl ⟨0, rfl⟩ rfl rfl ?_
      rcases (show ru (y * 12 + al) = 1 ∨ ru (y * 12 + al) = 2 ∨ ru (y * 12 + al) = 3 ∨ ru (y * 12 + al) = 0 by omega) with hr9 | hr9 | hr9 | hr9
      · refine zj_top (x' := 1) (by rw [hr9]; rfl) ?_
        refine zj_tableIn (pc := 48) 76 C dX4_isStep_48 (by decide) (by decide) rfl (by decide) ?_
        refine zj_iload (pc := 76) C dX4_isStep_76 rfl ?_
        refine zj_aload_n (pc := 78) C dX4_isStep_78 rfl ?_
        refine zj_iload (pc := 79) C dX4_isStep_79 rfl ?_
        refine zj_iconst (pc := 81) (v := 2) C dX4_isStep_81 (by decide) ?_
        refine zj_callP1 (pc := 82) C kv_X4_103 (m_X1_alleyCell hP hv hal (c := 2) (by decide)) dX4_isStep_82 6 rfl rfl rfl rfl rfl rfl rfl ⟨0, rfl⟩ rfl rfl ?_
        refine zj_icmp_ne (pc := 85) 113 C dX4_isStep_85 (by decide) (fun c_85 => ?_) (fun c_85 => ?_)
        · refine zj_iconst (pc := 113) (v := 0) C dX4_isStep_113 (by decide) ?_
          refine zj_zretF C hr hlocks dX4_isStep_114 ?_ rfl
          rw [nI_eq (by omega) (by omega)] at c_85
          simp [stp_s hnx, c_20, stpR, hr9, bI, c_85]
        · refine zj_aload_n (pc := 88) C dX4_isStep_88 rfl ?_
          refine zj_iload (pc := 89) C dX4_isStep_89 rfl ?_
          refine zj_iload_n (pc := 91) C dX4_isStep_91 rfl ?_
          refine zj_iload (pc := 92) C dX4_isStep_92 rfl ?_
          refine zj_iload (pc := 94) C dX4_isStep_94 rfl ?_
          refine zj_aload_n (pc := 96) C dX4_isStep_96 rfl ?_
          refine zj_iload (pc := 97) C dX4_isStep_97 rfl ?_
          refine zj_iconst (pc := 99) (v := 0) C dX4_isStep_99 (by decide) ?_
          refine zj_callP1 (pc := 100) C kv_X4_103 (m_X1_alleyCell hP hv hal (c := 0) (by decide)) dX4_isStep_100 6 rfl rfl rfl rfl rfl rfl rfl ⟨0, rfl⟩ rfl rfl ?_
          refine zj_top (x' := nI (alC g al 0)) rfl ?_
          refine zj_callPA (pc := 103) C kv_X4_132 (m_X4_leadsOn hT (by omega) hy hnl v0 l4) dX4_isStep_103 [0, 1, 2, 3, 4, 5] [6] rfl rfl rfl rfl rfl rfl rfl rfl ⟨0, rfl⟩ rfl rfl ?_
          refine zm_ifb_eq_0 (pc := 106) C dX4_isStep_106 dX4_isStep_109 dX4_isStep_110 dX4_isStep_113 ?_
          refine zj_zretF C hr hlocks dX4_isStep_114 ?_ rfl
          rw [nI_eq (by omega) (by omega)] at c_85
          simp [stp_s hnx, c_20, stpR, hr9, bI, c_85]
      · refine zj_top (x' := 2) (by rw [hr9]; rfl) ?_
        refine zj_tableIn (pc := 48) 115 C dX4_isStep_48 (by decide) (by decide) rfl (by decide) ?_
        refine zj_iload (pc := 115) C dX4_isStep_115 rfl ?_
        refine zj_if_ne (pc := 117) 139 C dX4_isStep_117 (by decide) (fun c_117 => ?_) (fun c_117 => ?_)
        · refine zj_iconst (pc := 139) (v := 0) C dX4_isStep_139 (by decide) ?_
          refine zj_zretF C hr hlocks dX4_isStep_140 ?_ rfl
          rw [nI_z (by omega)] at c_117
          simp [stp_s hnx, c_20, stpR, hr9, bI, c_117]
        · refine zj_aload_n (pc := 120) C dX4_isStep_120 rfl ?_
          refine zj_aload_n (pc := 121) C dX4_isStep_121 rfl ?_
          refine zj_iload_n (pc := 122) C dX4_isStep_122 rfl ?_
          refine zj_iload (pc := 123) C dX4_isStep_123 rfl ?_
          refine zj_iload (pc := 125) C dX4_isStep_125 rfl ?_
          refine zj_iload (pc := 127) C dX4_isStep_127 rfl ?_
          refine zj_callPA (pc := 129) C kv_X4_136 (m_X4_leadsOverBackbone hT hP hv hy hnl l4 hal) dX4_isStep_129 [0, 1, 2, 3, 4, 5, 6] [] rfl rfl rfl rfl rfl rfl rfl rfl ⟨0, rfl⟩ rfl rfl ?_
          refine zm_ifb_eq_0 (pc := 132) C dX4_isStep_132 dX4_isStep_135 dX4_isStep_136 dX4_isStep_139 ?_
          refine zj_zretF C hr hlocks dX4_isStep_140 ?_ rfl
          rw [nI_z (by omega)] at c_117
          simp [stp_s hnx, c_20, stpR, hr9, bI, c_117]
      · refine zj_top (x' := 3) (by rw [hr9]; rfl) ?_
        refine zj_tableIn (pc := 48) 141 C dX4_isStep_48 (by decide) (by decide) rfl (by decide) ?_
        refine zj_iload (pc := 141) C dX4_isStep_141 rfl ?_
        refine zj_if_eq (pc := 143) 166 C dX4_isStep_143 (by decide) (fun c_143 => ?_) (fun c_143 => ?_)
        · refine zj_iconst (pc := 166) (v := 0) C dX4_isStep_166 (by decide) ?_
          refine zj_zretF C hr hlocks dX4_isStep_167 ?_ rfl
          rw [nI_z (by omega)] at c_143
          simp [stp_s hnx, c_20, stpR, hr9, bI, c_143]
        · refine zj_aload_n (pc := 146) C dX4_isStep_146 rfl ?_
          refine zj_iload (pc := 147) C dX4_isStep_147 rfl ?_
          refine zj_iload_n (pc := 149) C dX4_isStep_149 rfl ?_
          refine zj_iload (pc := 150) C dX4_isStep_150 rfl ?_
          refine zj_iload (pc := 152) C dX4_isStep_152 rfl ?_
          refine zj_iload (pc := 154) C dX4_isStep_154 rfl ?_
          refine zj_callPA (pc := 156) C kv_X4_140 (m_X4_leadsOut hT l5 hy hnl l4 (by omega)) dX4_isStep_156 [0, 1, 2, 3, 4, 5] [6] rfl rfl rfl rfl rfl rfl rfl rfl ⟨0, rfl⟩ rfl rfl ?_
          refine zm_ifb_eq_0 (pc := 159) C dX4_isStep_159 dX4_isStep_162 dX4_isStep_163 dX4_isStep_166 ?_
          refine zj_zretF C hr hlocks dX4_isStep_167 ?_ rfl
          rw [nI_z (by omega)] at c_143
          simp [stp_s hnx, c_20, stpR, hr9, bI, c_143]
      · refine zj_top (x' := 0) (by rw [hr9]; rfl) ?_
        refine zj_tableOut (pc := 48) 168 C dX4_isStep_48 (Or.inl (by decide)) (by decide) ?_
        refine zj_iconst (pc := 168) (v := 0) C dX4_isStep_168 (by decide) ?_
        refine zj_zretF C hr hlocks dX4_isStep_169 ?_ rfl
        simp [stp_s hnx, c_20, stpR, hr9, bI]
    · refine zj_iconst (pc := 23) (v := 0) C dX4_isStep_23 (by decide) ?_
      refine zj_zretF C hr hlocks dX4_isStep_24 ?_ rfl
      rw [stp_s hnx, c_20]
      exact rfl
