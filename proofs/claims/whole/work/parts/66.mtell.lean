set_option maxRecDepth 100000 in
set_option maxHeartbeats 4000000 in
theorem m_X7_readAlley {l : Launch} {G : GG} {m : Nat → Nat} {g ga gh : Nat → Nat} {kn : Nat} {gk : Nat → Nat} {kp : Bool} {tx : Nat → Nat} {ln : Nat} {iz wy wa tt rr we : Nat → Nat} {sp : Nat} {er : Int32} {dn : Bool} (hv : Vg g) (hn : ln ≤ 60) (htc : ∀ k, k < ln → tx k < 65536) (hs9 : sp < ln) (ha9 : tx sp = 97) : zX l G yX7_readAlley cX7_readAlley 5 none 3 67 0 0 [.ref (m 0), .int (bI (dn))] (mB G m g ga gh kn gk kp tx ln iz wy wa tt rr we sp false er).flatten (zF none (mB G m (rpG dn g er ((0, false), (false, (rdAl tx ln (sp, false)).1.1, 0, (rdAl tx ln (sp, false)).1.2.1, (rdAl tx ln (sp, false)).1.2.2))) ga gh kn gk kp tx ln iz wy wa tt rr we ((rdAl tx ln (sp, false)).2.1) ((rdAl tx ln (sp, false)).2.2) (er3 dn g er ((0, false), (false, (rdAl tx ln (sp, false)).1.1, 0, (rdAl tx ln (sp, false)).1.2.1, (rdAl tx ln (sp, false)).1.2.2)))).flatten) := by
  refine zj_startF RX7 (by decide +kernel) rfl rfl rfl (bs := (mB G m g ga gh kn gk kp tx ln iz wy wa tt rr we sp false er)) rfl (lo := [some (.ref (m 0)), some (.int (bI (dn))), none, none, none]) rfl ?_
  intro p0 e0 s0 m0 args0 below0 meth0 c0 A0 C hr hlocks
  have hk12 := hv.2.1
  refine zj_aload_n (pc := 0) C dX7_readAlley_0 rfl ?_
  refine zj_dup (pc := 1) C dX7_readAlley_1 rfl ?_
  refine gf_X7_14 (pc := 2) C dX7_readAlley_2 0 rfl ?_
  refine zj_iconst (pc := 5) (v := nI 1) C dX7_readAlley_5 (by decide) ?_
  refine zq_iadd (pc := 6) C dX7_readAlley_6 ?_
  refine pf_X7_14 (pc := 7) C dX7_readAlley_7 0 rfl ?_
  refine zj_blk (bs' := (mB G m g ga gh kn gk kp tx ln iz wy wa tt rr we (sp + 1) false er)) rfl ?_
  refine zj_aload_n (pc := 10) C dX7_readAlley_10 rfl ?_
  refine zj_iconst (pc := 11) (v := nI 0) C dX7_readAlley_11 (by decide) ?_
  refine zj_bipush (pc := 12) (v := nI 13) C dX7_readAlley_12 (by decide) ?_
  refine zq_callF (pc := 14) (bs' := (mB G m g ga gh kn gk kp tx ln iz wy wa tt rr we ((rdN tx ln 0 13 ((sp + 1), false)).2.1) ((rdN tx ln 0 13 ((sp + 1), false)).2.2) er)) C kv_X7_170 (m_X7_number hn htc (by decide) (by decide) (by omega)) dX7_readAlley_14 rfl rfl rfl rfl rfl rfl ⟨0, rfl⟩ rfl rfl ?_
  have b_r1 := rdN_le (lo := 0) (hi := 13) (t := tx) (n := ln) (s := (sp + 1, false)) (by omega) hn
  have v_r1 := rdN_hi (lo := 0) (hi := 13) (t := tx) (n := ln) (s := (sp + 1, false))
  generalize e_r1 : rdN tx ln 0 13 (sp + 1, false) = r1 at b_r1 v_r1 ⊢
  refine zj_istore_n (pc := 17) C dX7_readAlley_17 (Nat.le_of_ble_eq_true rfl) ?_
  refine zj_aload_n (pc := 18) C dX7_readAlley_18 rfl ?_
  refine zj_bipush (pc := 19) (v := nI 43) C dX7_readAlley_19 (by decide) ?_
  refine zq_callFn (pc := 21) (bs' := (mB G m g ga gh kn gk kp tx ln iz wy wa tt rr we ((rdS tx ln 43 (r1.2.1, r1.2.2)).1) ((rdS tx ln 43 (r1.2.1, r1.2.2)).2) er)) C kv_X7_173 (m_X7_needs hn htc (by decide) (by omega)) dX7_readAlley_21 rfl rfl rfl rfl rfl rfl ⟨0, rfl⟩ rfl rfl ?_
  have b_r2 := rdS_le (c := 43) (t := tx) (n := ln) (s := (r1.2.1, r1.2.2)) (by omega) hn
  generalize e_r2 : rdS tx ln 43 (r1.2.1, r1.2.2) = r2 at b_r2 ⊢
  refine zj_aload_n (pc := 24) C dX7_readAlley_24 rfl ?_
  refine zj_iconst (pc := 25) (v := nI 0) C dX7_readAlley_25 (by decide) ?_
  refine zj_bipush (pc := 26) (v := nI 20) C dX7_readAlley_26 (by decide) ?_
  refine zq_callF (pc := 28) (bs' := (mB G m g ga gh kn gk kp tx ln iz wy wa tt rr we ((rdN tx ln 0 20 (r2.1, r2.2)).2.1) ((rdN tx ln 0 20 (r2.1, r2.2)).2.2) er)) C kv_X7_170 (m_X7_number hn htc (by decide) (by decide) (by omega)) dX7_readAlley_28 rfl rfl rfl rfl rfl rfl ⟨0, rfl⟩ rfl rfl ?_
  have b_r3 := rdN_le (lo := 0) (hi := 20) (t := tx) (n := ln) (s := (r2.1, r2.2)) (by omega) hn
  have v_r3 := rdN_hi (lo := 0) (hi := 20) (t := tx) (n := ln) (s := (r2.1, r2.2))
  generalize e_r3 : rdN tx ln 0 20 (r2.1, r2.2) = r3 at b_r3 v_r3 ⊢
  refine zj_istore_n (pc := 31) C dX7_readAlley_31 (Nat.le_of_ble_eq_true rfl) ?_
  refine zj_aload_n (pc := 32) C dX7_readAlley_32 rfl ?_
  refine zj_bipush (pc := 33) (v := nI 58) C dX7_readAlley_33 (by decide) ?_
  refine zq_callFn (pc := 35) (bs' := (mB G m g ga gh kn gk kp tx ln iz wy wa tt rr we ((rdS tx ln 58 (r3.2.1, r3.2.2)).1) ((rdS tx ln 58 (r3.2.1, r3.2.2)).2) er)) C kv_X7_173 (m_X7_needs hn htc (by decide) (by omega)) dX7_readAlley_35 rfl rfl rfl rfl rfl rfl ⟨0, rfl⟩ rfl rfl ?_
  have b_r4 := rdS_le (c := 58) (t := tx) (n := ln) (s := (r3.2.1, r3.2.2)) (by omega) hn
  generalize e_r4 : rdS tx ln 58 (r3.2.1, r3.2.2) = r4 at b_r4 ⊢
  refine zj_aload_n (pc := 38) C dX7_readAlley_38 rfl ?_
  refine zj_iconst (pc := 39) (v := nI 0) C dX7_readAlley_39 (by decide) ?_
  refine zj_iconst (pc := 40) (v := nI 3) C dX7_readAlley_40 (by decide) ?_
  refine zq_callF (pc := 41) (bs' := (mB G m g ga gh kn gk kp tx ln iz wy wa tt rr we ((rdN tx ln 0 3 (r4.1, r4.2)).2.1) ((rdN tx ln 0 3 (r4.1, r4.2)).2.2) er)) C kv_X7_170 (m_X7_number hn htc (by decide) (by decide) (by omega)) dX7_readAlley_41 rfl rfl rfl rfl rfl rfl ⟨0, rfl⟩ rfl rfl ?_
  have b_r5 := rdN_le (lo := 0) (hi := 3) (t := tx) (n := ln) (s := (r4.1, r4.2)) (by omega) hn
  have v_r5 := rdN_hi (lo := 0) (hi := 3) (t := tx) (n := ln) (s := (r4.1, r4.2))
  generalize e_r5 : rdN tx ln 0 3 (r4.1, r4.2) = r5 at b_r5 v_r5 ⊢
  refine zj_istore (pc := 44) C dX7_readAlley_44 (Nat.le_of_ble_eq_true rfl) ?_
  refine zj_iload_n (pc := 46) C dX7_readAlley_46 rfl ?_
  refine zj_ifb_eq (pc := 47) 69 C dX7_readAlley_47 (by decide) (fun c_47 => ?_) (fun c_47 => ?_)
  · refine zj_iload_n (pc := 69) C dX7_readAlley_69 rfl ?_
    refine zj_ifb_eq (pc := 70) 88 C dX7_readAlley_70 (by decide) (fun c_70 => ?_) (fun c_70 => by rw [c_47] at c_70; cases c_70)
    have hA : rdAl tx ln (sp, false) = ((r1.1, r3.1, r5.1), r5.2) := by
      unfold rdAl
      rw [show rdS tx ln 97 (sp, false) = (sp + 1, false) from if_pos ⟨rfl, hs9, ha9⟩]
      simp only [e_r1, show rdS tx ln 43 r1.2 = r2 from e_r2, show rdN tx ln 0 20 r2 = r3 from e_r3, show rdS tx ln 58 r3.2 = r4 from e_r4, show rdN tx ln 0 3 r4 = r5 from e_r5]
    have hTA : tpR g ((0, false), (false, r1.1, 0, r3.1, r5.1)) = refA (kA g) (nI r3.1) := rfl
    have hTG : tpG g ((0, false), (false, r1.1, 0, r3.1, r5.1)) = gAddA g r1.1 r3.1 r5.1 := rfl
    have hEA : erA (kA g) (nI r1.1) (nI r3.1) (nI r5.1) = refA (kA g) (nI r3.1) := erA_n (by omega) (by omega)
    have hE : er3 dn g er ((0, false), (false, r1.1, 0, r3.1, r5.1)) = er := if_neg (by rw [c_47]; simp)
    have hG : rpG dn g er ((0, false), (false, r1.1, 0, r3.1, r5.1)) = g := if_neg (by rw [c_47]; simp)
    exact zj_vretF C hr hlocks dX7_readAlley_88 (by rw [hA]; show _ = (mB G m (rpG dn g er ((0, false), (false, r1.1, 0, r3.1, r5.1))) ga gh kn gk kp tx ln iz wy wa tt rr we r5.2.1 r5.2.2 (er3 dn g er ((0, false), (false, r1.1, 0, r3.1, r5.1)))).flatten; rw [hG, hE])
  · refine zj_aload_n (pc := 50) C dX7_readAlley_50 rfl ?_
    refine gf_X7_16 (pc := 51) C dX7_readAlley_51 0 rfl ?_
    refine zj_if_ne (pc := 54) 69 C dX7_readAlley_54 (by decide) (fun c_54 => ?_) (fun c_54 => ?_)
    · refine zj_iload_n (pc := 69) C dX7_readAlley_69 rfl ?_
      refine zj_ifb_eq (pc := 70) 88 C dX7_readAlley_70 (by decide) (fun c_70 => by rw [c_47] at c_70; cases c_70) (fun c_70 => ?_)
      refine zj_aload_n (pc := 73) C dX7_readAlley_73 rfl ?_
      refine gf_X7_16 (pc := 74) C dX7_readAlley_74 0 rfl ?_
      refine zj_if_ne (pc := 77) 88 C dX7_readAlley_77 (by decide) (fun c_77 => ?_) (fun c_77 => absurd c_77 c_54)
      have hA : rdAl tx ln (sp, false) = ((r1.1, r3.1, r5.1), r5.2) := by
        unfold rdAl
        rw [show rdS tx ln 97 (sp, false) = (sp + 1, false) from if_pos ⟨rfl, hs9, ha9⟩]
        simp only [e_r1, show rdS tx ln 43 r1.2 = r2 from e_r2, show rdN tx ln 0 20 r2 = r3 from e_r3, show rdS tx ln 58 r3.2 = r4 from e_r4, show rdN tx ln 0 3 r4 = r5 from e_r5]
      have hTA : tpR g ((0, false), (false, r1.1, 0, r3.1, r5.1)) = refA (kA g) (nI r3.1) := rfl
      have hTG : tpG g ((0, false), (false, r1.1, 0, r3.1, r5.1)) = gAddA g r1.1 r3.1 r5.1 := rfl
      have hEA : erA (kA g) (nI r1.1) (nI r3.1) (nI r5.1) = refA (kA g) (nI r3.1) := erA_n (by omega) (by omega)
      have hE : er3 dn g er ((0, false), (false, r1.1, 0, r3.1, r5.1)) = er := if_neg (by simp [c_54])
      have hG : rpG dn g er ((0, false), (false, r1.1, 0, r3.1, r5.1)) = g := if_neg (by rw [hE]; simp [c_54])
      exact zj_vretF C hr hlocks dX7_readAlley_88 (by rw [hA]; show _ = (mB G m (rpG dn g er ((0, false), (false, r1.1, 0, r3.1, r5.1))) ga gh kn gk kp tx ln iz wy wa tt rr we r5.2.1 r5.2.2 (er3 dn g er ((0, false), (false, r1.1, 0, r3.1, r5.1)))).flatten; rw [hG, hE])
    · refine zj_aload_n (pc := 57) C dX7_readAlley_57 rfl ?_
      refine zj_aload_n (pc := 58) C dX7_readAlley_58 rfl ?_
      refine zj_iload_n (pc := 59) C dX7_readAlley_59 rfl ?_
      refine zj_iload_n (pc := 60) C dX7_readAlley_60 rfl ?_
      refine zj_iload (pc := 61) C dX7_readAlley_61 rfl ?_
      refine zq_callP (pc := 63) C kv_X7_147 (m_X7_errorOfAlley (Vk_of hv)) dX7_readAlley_63 rfl rfl rfl rfl rfl rfl ⟨0, rfl⟩ rfl rfl ?_
      refine pf_X7_16 (pc := 66) C dX7_readAlley_66 0 rfl ?_
      refine zj_blk (bs' := (mB G m g ga gh kn gk kp tx ln iz wy wa tt rr we r5.2.1 r5.2.2 (erA (kA g) (nI (r1.1)) (nI (r3.1)) (nI (r5.1))))) rfl ?_
      refine zj_iload_n (pc := 69) C dX7_readAlley_69 rfl ?_
      refine zj_ifb_eq (pc := 70) 88 C dX7_readAlley_70 (by decide) (fun c_70 => by rw [c_47] at c_70; cases c_70) (fun c_70 => ?_)
      refine zj_aload_n (pc := 73) C dX7_readAlley_73 rfl ?_
      refine gf_X7_16 (pc := 74) C dX7_readAlley_74 0 rfl ?_
      refine zj_if_ne (pc := 77) 88 C dX7_readAlley_77 (by decide) (fun c_77 => ?_) (fun c_77 => ?_)
      · have hA : rdAl tx ln (sp, false) = ((r1.1, r3.1, r5.1), r5.2) := by
          unfold rdAl
          rw [show rdS tx ln 97 (sp, false) = (sp + 1, false) from if_pos ⟨rfl, hs9, ha9⟩]
          simp only [e_r1, show rdS tx ln 43 r1.2 = r2 from e_r2, show rdN tx ln 0 20 r2 = r3 from e_r3, show rdS tx ln 58 r3.2 = r4 from e_r4, show rdN tx ln 0 3 r4 = r5 from e_r5]
        have hTA : tpR g ((0, false), (false, r1.1, 0, r3.1, r5.1)) = refA (kA g) (nI r3.1) := rfl
        have hTG : tpG g ((0, false), (false, r1.1, 0, r3.1, r5.1)) = gAddA g r1.1 r3.1 r5.1 := rfl
        have hEA : erA (kA g) (nI r1.1) (nI r3.1) (nI r5.1) = refA (kA g) (nI r3.1) := erA_n (by omega) (by omega)
        have hE : er3 dn g er ((0, false), (false, r1.1, 0, r3.1, r5.1)) = refA (kA g) (nI r3.1) := (if_pos (by rw [c_47, decide_eq_true c_54]; rfl)).trans hTA
        have hG : rpG dn g er ((0, false), (false, r1.1, 0, r3.1, r5.1)) = g := if_neg (by rw [hE, ← hEA, decide_eq_false c_77]; simp)
        exact zj_vretF C hr hlocks dX7_readAlley_88 (by rw [hA]; show _ = (mB G m (rpG dn g er ((0, false), (false, r1.1, 0, r3.1, r5.1))) ga gh kn gk kp tx ln iz wy wa tt rr we r5.2.1 r5.2.2 (er3 dn g er ((0, false), (false, r1.1, 0, r3.1, r5.1)))).flatten; rw [hG, hE]; rw [hEA])
      · have hk9 : kA g ≠ 12 := by have h := c_77; rw [erA_n (by omega) (by omega)] at h; exact (refA_0 h).2.2
        refine zj_aload_n (pc := 80) C dX7_readAlley_80 rfl ?_
        refine zj_iload_n (pc := 81) C dX7_readAlley_81 rfl ?_
        refine zj_iload_n (pc := 82) C dX7_readAlley_82 rfl ?_
        refine zj_iload (pc := 83) C dX7_readAlley_83 rfl ?_
        refine zq_callFn (pc := 85) (bs' := (mB G m (gAddA g r1.1 r3.1 r5.1) ga gh kn gk kp tx ln iz wy wa tt rr we r5.2.1 r5.2.2 (erA (kA g) (nI (r1.1)) (nI (r3.1)) (nI (r5.1))))) C kv_X7_150 (m_X7_opens (by omega)) dX7_readAlley_85 rfl rfl rfl rfl rfl rfl ⟨0, rfl⟩ rfl rfl ?_
        have hA : rdAl tx ln (sp, false) = ((r1.1, r3.1, r5.1), r5.2) := by
          unfold rdAl
          rw [show rdS tx ln 97 (sp, false) = (sp + 1, false) from if_pos ⟨rfl, hs9, ha9⟩]
          simp only [e_r1, show rdS tx ln 43 r1.2 = r2 from e_r2, show rdN tx ln 0 20 r2 = r3 from e_r3, show rdS tx ln 58 r3.2 = r4 from e_r4, show rdN tx ln 0 3 r4 = r5 from e_r5]
        have hTA : tpR g ((0, false), (false, r1.1, 0, r3.1, r5.1)) = refA (kA g) (nI r3.1) := rfl
        have hTG : tpG g ((0, false), (false, r1.1, 0, r3.1, r5.1)) = gAddA g r1.1 r3.1 r5.1 := rfl
        have hEA : erA (kA g) (nI r1.1) (nI r3.1) (nI r5.1) = refA (kA g) (nI r3.1) := erA_n (by omega) (by omega)
        have hE : er3 dn g er ((0, false), (false, r1.1, 0, r3.1, r5.1)) = refA (kA g) (nI r3.1) := (if_pos (by rw [c_47, decide_eq_true c_54]; rfl)).trans hTA
        have hG : rpG dn g er ((0, false), (false, r1.1, 0, r3.1, r5.1)) = tpG g ((0, false), (false, r1.1, 0, r3.1, r5.1)) := if_pos (by rw [hE, ← hEA, decide_eq_true c_77, c_47]; rfl)
        exact zj_vretF C hr hlocks dX7_readAlley_88 (by rw [hA]; show _ = (mB G m (rpG dn g er ((0, false), (false, r1.1, 0, r3.1, r5.1))) ga gh kn gk kp tx ln iz wy wa tt rr we r5.2.1 r5.2.2 (er3 dn g er ((0, false), (false, r1.1, 0, r3.1, r5.1)))).flatten; rw [hG, hE]; rw [hTG, hEA])
set_option maxRecDepth 100000 in
set_option maxHeartbeats 4000000 in
theorem m_X7_readLane {l : Launch} {G : GG} {m : Nat → Nat} {g ga gh : Nat → Nat} {kn : Nat} {gk : Nat → Nat} {kp : Bool} {tx : Nat → Nat} {ln : Nat} {iz wy wa tt rr we : Nat → Nat} {sp : Nat} {wr : Bool} {er : Int32} {dn : Bool} (hv : Vg g) (hn : ln ≤ 60) (htc : ∀ k, k < ln → tx k < 65536) (hs9 : sp ≤ 60) : zX l G yX7_readLane cX7_readLane 6 none 3 67 0 0 [.ref (m 0), .int (bI (dn))] (mB G m g ga gh kn gk kp tx ln iz wy wa tt rr we sp wr er).flatten (zF none (mB G m (rpG dn g er ((0, false), (true, (rdLn tx ln (sp, wr)).1.1, (rdLn tx ln (sp, wr)).1.2.1, (rdLn tx ln (sp, wr)).1.2.2.1, (rdLn tx ln (sp, wr)).1.2.2.2))) ga gh kn gk kp tx ln iz wy wa tt rr we ((rdLn tx ln (sp, wr)).2.1) ((rdLn tx ln (sp, wr)).2.2) (er3 dn g er ((0, false), (true, (rdLn tx ln (sp, wr)).1.1, (rdLn tx ln (sp, wr)).1.2.1, (rdLn tx ln (sp, wr)).1.2.2.1, (rdLn tx ln (sp, wr)).1.2.2.2)))).flatten) := by
  refine zj_startF RX7 (by decide +kernel) rfl rfl rfl (bs := (mB G m g ga gh kn gk kp tx ln iz wy wa tt rr we sp wr er)) rfl (lo := [some (.ref (m 0)), some (.int (bI (dn))), none, none, none, none]) rfl ?_
  intro p0 e0 s0 m0 args0 below0 meth0 c0 A0 C hr hlocks
  have hk24 := hv.1
  refine zj_aload_n (pc := 0) C dX7_readLane_0 rfl ?_
  refine zj_iconst (pc := 1) (v := nI 0) C dX7_readLane_1 (by decide) ?_
  refine zj_bipush (pc := 2) (v := nI 13) C dX7_readLane_2 (by decide) ?_
  refine zq_callF (pc := 4) (bs' := (mB G m g ga gh kn gk kp tx ln iz wy wa tt rr we ((rdN tx ln 0 13 (sp, wr)).2.1) ((rdN tx ln 0 13 (sp, wr)).2.2) er)) C kv_X7_170 (m_X7_number hn htc (by decide) (by decide) (by omega)) dX7_readLane_4 rfl rfl rfl rfl rfl rfl ⟨0, rfl⟩ rfl rfl ?_
  have b_r1 := rdN_le (lo := 0) (hi := 13) (t := tx) (n := ln) (s := (sp, wr)) (by omega) hn
  have v_r1 := rdN_hi (lo := 0) (hi := 13) (t := tx) (n := ln) (s := (sp, wr))
  generalize e_r1 : rdN tx ln 0 13 (sp, wr) = r1 at b_r1 v_r1 ⊢
  refine zj_istore_n (pc := 7) C dX7_readLane_7 (Nat.le_of_ble_eq_true rfl) ?_
  refine zj_aload_n (pc := 8) C dX7_readLane_8 rfl ?_
  refine zj_bipush (pc := 9) (v := nI 45) C dX7_readLane_9 (by decide) ?_
  refine zq_callFn (pc := 11) (bs' := (mB G m g ga gh kn gk kp tx ln iz wy wa tt rr we ((rdS tx ln 45 (r1.2.1, r1.2.2)).1) ((rdS tx ln 45 (r1.2.1, r1.2.2)).2) er)) C kv_X7_173 (m_X7_needs hn htc (by decide) (by omega)) dX7_readLane_11 rfl rfl rfl rfl rfl rfl ⟨0, rfl⟩ rfl rfl ?_
  have b_r2 := rdS_le (c := 45) (t := tx) (n := ln) (s := (r1.2.1, r1.2.2)) (by omega) hn
  generalize e_r2 : rdS tx ln 45 (r1.2.1, r1.2.2) = r2 at b_r2 ⊢
  refine zj_aload_n (pc := 14) C dX7_readLane_14 rfl ?_
  refine zj_iconst (pc := 15) (v := nI 0) C dX7_readLane_15 (by decide) ?_
  refine zj_bipush (pc := 16) (v := nI 13) C dX7_readLane_16 (by decide) ?_
  refine zq_callF (pc := 18) (bs' := (mB G m g ga gh kn gk kp tx ln iz wy wa tt rr we ((rdN tx ln 0 13 (r2.1, r2.2)).2.1) ((rdN tx ln 0 13 (r2.1, r2.2)).2.2) er)) C kv_X7_170 (m_X7_number hn htc (by decide) (by decide) (by omega)) dX7_readLane_18 rfl rfl rfl rfl rfl rfl ⟨0, rfl⟩ rfl rfl ?_
  have b_r3 := rdN_le (lo := 0) (hi := 13) (t := tx) (n := ln) (s := (r2.1, r2.2)) (by omega) hn
  have v_r3 := rdN_hi (lo := 0) (hi := 13) (t := tx) (n := ln) (s := (r2.1, r2.2))
  generalize e_r3 : rdN tx ln 0 13 (r2.1, r2.2) = r3 at b_r3 v_r3 ⊢
  refine zj_istore_n (pc := 21) C dX7_readLane_21 (Nat.le_of_ble_eq_true rfl) ?_
  refine zj_aload_n (pc := 22) C dX7_readLane_22 rfl ?_
  refine zj_bipush (pc := 23) (v := nI 42) C dX7_readLane_23 (by decide) ?_
  refine zq_callFn (pc := 25) (bs' := (mB G m g ga gh kn gk kp tx ln iz wy wa tt rr we ((rdS tx ln 42 (r3.2.1, r3.2.2)).1) ((rdS tx ln 42 (r3.2.1, r3.2.2)).2) er)) C kv_X7_173 (m_X7_needs hn htc (by decide) (by omega)) dX7_readLane_25 rfl rfl rfl rfl rfl rfl ⟨0, rfl⟩ rfl rfl ?_
  have b_r4 := rdS_le (c := 42) (t := tx) (n := ln) (s := (r3.2.1, r3.2.2)) (by omega) hn
  generalize e_r4 : rdS tx ln 42 (r3.2.1, r3.2.2) = r4 at b_r4 ⊢
  refine zj_aload_n (pc := 28) C dX7_readLane_28 rfl ?_
  refine zj_iconst (pc := 29) (v := nI 1) C dX7_readLane_29 (by decide) ?_
  refine zj_bipush (pc := 30) (v := nI 20) C dX7_readLane_30 (by decide) ?_
  refine zq_callF (pc := 32) (bs' := (mB G m g ga gh kn gk kp tx ln iz wy wa tt rr we ((rdN tx ln 1 20 (r4.1, r4.2)).2.1) ((rdN tx ln 1 20 (r4.1, r4.2)).2.2) er)) C kv_X7_170 (m_X7_number hn htc (by decide) (by decide) (by omega)) dX7_readLane_32 rfl rfl rfl rfl rfl rfl ⟨0, rfl⟩ rfl rfl ?_
  have b_r5 := rdN_le (lo := 1) (hi := 20) (t := tx) (n := ln) (s := (r4.1, r4.2)) (by omega) hn
  have v_r5 := rdN_hi (lo := 1) (hi := 20) (t := tx) (n := ln) (s := (r4.1, r4.2))
  generalize e_r5 : rdN tx ln 1 20 (r4.1, r4.2) = r5 at b_r5 v_r5 ⊢
  refine zj_istore (pc := 35) C dX7_readLane_35 (Nat.le_of_ble_eq_true rfl) ?_
  refine zj_aload_n (pc := 37) C dX7_readLane_37 rfl ?_
  refine zj_bipush (pc := 38) (v := nI 58) C dX7_readLane_38 (by decide) ?_
  refine zq_callFn (pc := 40) (bs' := (mB G m g ga gh kn gk kp tx ln iz wy wa tt rr we ((rdS tx ln 58 (r5.2.1, r5.2.2)).1) ((rdS tx ln 58 (r5.2.1, r5.2.2)).2) er)) C kv_X7_173 (m_X7_needs hn htc (by decide) (by omega)) dX7_readLane_40 rfl rfl rfl rfl rfl rfl ⟨0, rfl⟩ rfl rfl ?_
  have b_r6 := rdS_le (c := 58) (t := tx) (n := ln) (s := (r5.2.1, r5.2.2)) (by omega) hn
  generalize e_r6 : rdS tx ln 58 (r5.2.1, r5.2.2) = r6 at b_r6 ⊢
  refine zj_aload_n (pc := 43) C dX7_readLane_43 rfl ?_
  refine zj_iconst (pc := 44) (v := nI 0) C dX7_readLane_44 (by decide) ?_
  refine zj_iconst (pc := 45) (v := nI 3) C dX7_readLane_45 (by decide) ?_
  refine zq_callF (pc := 46) (bs' := (mB G m g ga gh kn gk kp tx ln iz wy wa tt rr we ((rdN tx ln 0 3 (r6.1, r6.2)).2.1) ((rdN tx ln 0 3 (r6.1, r6.2)).2.2) er)) C kv_X7_170 (m_X7_number hn htc (by decide) (by decide) (by omega)) dX7_readLane_46 rfl rfl rfl rfl rfl rfl ⟨0, rfl⟩ rfl rfl ?_
  have b_r7 := rdN_le (lo := 0) (hi := 3) (t := tx) (n := ln) (s := (r6.1, r6.2)) (by omega) hn
  have v_r7 := rdN_hi (lo := 0) (hi := 3) (t := tx) (n := ln) (s := (r6.1, r6.2))
  generalize e_r7 : rdN tx ln 0 3 (r6.1, r6.2) = r7 at b_r7 v_r7 ⊢
  refine zj_istore (pc := 49) C dX7_readLane_49 (Nat.le_of_ble_eq_true rfl) ?_
  refine zj_iload_n (pc := 51) C dX7_readLane_51 rfl ?_
  refine zj_ifb_eq (pc := 52) 76 C dX7_readLane_52 (by decide) (fun c_52 => ?_) (fun c_52 => ?_)
  · refine zj_iload_n (pc := 76) C dX7_readLane_76 rfl ?_
    refine zj_ifb_eq (pc := 77) 97 C dX7_readLane_77 (by decide) (fun c_77 => ?_) (fun c_77 => by rw [c_52] at c_77; cases c_77)
    have hA : rdLn tx ln (sp, wr) = ((r1.1, r3.1, r5.1, r7.1), r7.2) := by
      unfold rdLn
      simp only [e_r1, show rdS tx ln 45 r1.2 = r2 from e_r2, show rdN tx ln 0 13 r2 = r3 from e_r3, show rdS tx ln 42 r3.2 = r4 from e_r4, show rdN tx ln 1 20 r4 = r5 from e_r5, show rdS tx ln 58 r5.2 = r6 from e_r6, show rdN tx ln 0 3 r6 = r7 from e_r7]
    have hTA : tpR g ((0, false), (true, r1.1, r3.1, r5.1, r7.1)) = refL (kL g) (nI r1.1) (nI r3.1) (nI r5.1) := rfl
    have hTG : tpG g ((0, false), (true, r1.1, r3.1, r5.1, r7.1)) = gAdd g r1.1 r3.1 r5.1 r7.1 := rfl
    have hEA : erL (kL g) (nI r1.1) (nI r3.1) (nI r5.1) (nI r7.1) = refL (kL g) (nI r1.1) (nI r3.1) (nI r5.1) := erL_n (by omega) (by omega) (by omega)
    have hE : er3 dn g er ((0, false), (true, r1.1, r3.1, r5.1, r7.1)) = er := if_neg (by rw [c_52]; simp)
    have hG : rpG dn g er ((0, false), (true, r1.1, r3.1, r5.1, r7.1)) = g := if_neg (by rw [c_52]; simp)
    exact zj_vretF C hr hlocks dX7_readLane_97 (by rw [hA]; show _ = (mB G m (rpG dn g er ((0, false), (true, r1.1, r3.1, r5.1, r7.1))) ga gh kn gk kp tx ln iz wy wa tt rr we r7.2.1 r7.2.2 (er3 dn g er ((0, false), (true, r1.1, r3.1, r5.1, r7.1)))).flatten; rw [hG, hE])
  · refine zj_aload_n (pc := 55) C dX7_readLane_55 rfl ?_
    refine gf_X7_16 (pc := 56) C dX7_readLane_56 0 rfl ?_
    refine zj_if_ne (pc := 59) 76 C dX7_readLane_59 (by decide) (fun c_59 => ?_) (fun c_59 => ?_)
    · refine zj_iload_n (pc := 76) C dX7_readLane_76 rfl ?_
      refine zj_ifb_eq (pc := 77) 97 C dX7_readLane_77 (by decide) (fun c_77 => by rw [c_52] at c_77; cases c_77) (fun c_77 => ?_)
      refine zj_aload_n (pc := 80) C dX7_readLane_80 rfl ?_
      refine gf_X7_16 (pc := 81) C dX7_readLane_81 0 rfl ?_
      refine zj_if_ne (pc := 84) 97 C dX7_readLane_84 (by decide) (fun c_84 => ?_) (fun c_84 => absurd c_84 c_59)
      have hA : rdLn tx ln (sp, wr) = ((r1.1, r3.1, r5.1, r7.1), r7.2) := by
        unfold rdLn
        simp only [e_r1, show rdS tx ln 45 r1.2 = r2 from e_r2, show rdN tx ln 0 13 r2 = r3 from e_r3, show rdS tx ln 42 r3.2 = r4 from e_r4, show rdN tx ln 1 20 r4 = r5 from e_r5, show rdS tx ln 58 r5.2 = r6 from e_r6, show rdN tx ln 0 3 r6 = r7 from e_r7]
      have hTA : tpR g ((0, false), (true, r1.1, r3.1, r5.1, r7.1)) = refL (kL g) (nI r1.1) (nI r3.1) (nI r5.1) := rfl
      have hTG : tpG g ((0, false), (true, r1.1, r3.1, r5.1, r7.1)) = gAdd g r1.1 r3.1 r5.1 r7.1 := rfl
      have hEA : erL (kL g) (nI r1.1) (nI r3.1) (nI r5.1) (nI r7.1) = refL (kL g) (nI r1.1) (nI r3.1) (nI r5.1) := erL_n (by omega) (by omega) (by omega)
      have hE : er3 dn g er ((0, false), (true, r1.1, r3.1, r5.1, r7.1)) = er := if_neg (by simp [c_59])
      have hG : rpG dn g er ((0, false), (true, r1.1, r3.1, r5.1, r7.1)) = g := if_neg (by rw [hE]; simp [c_59])
      exact zj_vretF C hr hlocks dX7_readLane_97 (by rw [hA]; show _ = (mB G m (rpG dn g er ((0, false), (true, r1.1, r3.1, r5.1, r7.1))) ga gh kn gk kp tx ln iz wy wa tt rr we r7.2.1 r7.2.2 (er3 dn g er ((0, false), (true, r1.1, r3.1, r5.1, r7.1)))).flatten; rw [hG, hE])
    · refine zj_aload_n (pc := 62) C dX7_readLane_62 rfl ?_
      refine zj_aload_n (pc := 63) C dX7_readLane_63 rfl ?_
      refine zj_iload_n (pc := 64) C dX7_readLane_64 rfl ?_
      refine zj_iload_n (pc := 65) C dX7_readLane_65 rfl ?_
      refine zj_iload (pc := 66) C dX7_readLane_66 rfl ?_
      refine zj_iload (pc := 68) C dX7_readLane_68 rfl ?_
      refine zq_callP (pc := 70) C kv_X7_131 (m_X7_errorOfLane (Vk_of hv)) dX7_readLane_70 rfl rfl rfl rfl rfl rfl ⟨0, rfl⟩ rfl rfl ?_
      refine pf_X7_16 (pc := 73) C dX7_readLane_73 0 rfl ?_
      refine zj_blk (bs' := (mB G m g ga gh kn gk kp tx ln iz wy wa tt rr we r7.2.1 r7.2.2 (erL (kL g) (nI (r1.1)) (nI (r3.1)) (nI (r5.1)) (nI (r7.1))))) rfl ?_
      refine zj_iload_n (pc := 76) C dX7_readLane_76 rfl ?_
      refine zj_ifb_eq (pc := 77) 97 C dX7_readLane_77 (by decide) (fun c_77 => by rw [c_52] at c_77; cases c_77) (fun c_77 => ?_)
      refine zj_aload_n (pc := 80) C dX7_readLane_80 rfl ?_
      refine gf_X7_16 (pc := 81) C dX7_readLane_81 0 rfl ?_
      refine zj_if_ne (pc := 84) 97 C dX7_readLane_84 (by decide) (fun c_84 => ?_) (fun c_84 => ?_)
      · have hA : rdLn tx ln (sp, wr) = ((r1.1, r3.1, r5.1, r7.1), r7.2) := by
          unfold rdLn
          simp only [e_r1, show rdS tx ln 45 r1.2 = r2 from e_r2, show rdN tx ln 0 13 r2 = r3 from e_r3, show rdS tx ln 42 r3.2 = r4 from e_r4, show rdN tx ln 1 20 r4 = r5 from e_r5, show rdS tx ln 58 r5.2 = r6 from e_r6, show rdN tx ln 0 3 r6 = r7 from e_r7]
        have hTA : tpR g ((0, false), (true, r1.1, r3.1, r5.1, r7.1)) = refL (kL g) (nI r1.1) (nI r3.1) (nI r5.1) := rfl
        have hTG : tpG g ((0, false), (true, r1.1, r3.1, r5.1, r7.1)) = gAdd g r1.1 r3.1 r5.1 r7.1 := rfl
        have hEA : erL (kL g) (nI r1.1) (nI r3.1) (nI r5.1) (nI r7.1) = refL (kL g) (nI r1.1) (nI r3.1) (nI r5.1) := erL_n (by omega) (by omega) (by omega)
        have hE : er3 dn g er ((0, false), (true, r1.1, r3.1, r5.1, r7.1)) = refL (kL g) (nI r1.1) (nI r3.1) (nI r5.1) := (if_pos (by rw [c_52, decide_eq_true c_59]; rfl)).trans hTA
        have hG : rpG dn g er ((0, false), (true, r1.1, r3.1, r5.1, r7.1)) = g := if_neg (by rw [hE, ← hEA, decide_eq_false c_84]; simp)
        exact zj_vretF C hr hlocks dX7_readLane_97 (by rw [hA]; show _ = (mB G m (rpG dn g er ((0, false), (true, r1.1, r3.1, r5.1, r7.1))) ga gh kn gk kp tx ln iz wy wa tt rr we r7.2.1 r7.2.2 (er3 dn g er ((0, false), (true, r1.1, r3.1, r5.1, r7.1)))).flatten; rw [hG, hE]; rw [hEA])
      · have hk9 : kL g ≠ 24 := by have h := c_84; rw [erL_n (by omega) (by omega) (by omega)] at h; exact (refL_0 h).2.2.2
        refine zj_aload_n (pc := 87) C dX7_readLane_87 rfl ?_
        refine zj_iload_n (pc := 88) C dX7_readLane_88 rfl ?_
        refine zj_iload_n (pc := 89) C dX7_readLane_89 rfl ?_
        refine zj_iload (pc := 90) C dX7_readLane_90 rfl ?_
        refine zj_iload (pc := 92) C dX7_readLane_92 rfl ?_
        refine zq_callFn (pc := 94) (bs' := (mB G m (gAdd g r1.1 r3.1 r5.1 r7.1) ga gh kn gk kp tx ln iz wy wa tt rr we r7.2.1 r7.2.2 (erL (kL g) (nI (r1.1)) (nI (r3.1)) (nI (r5.1)) (nI (r7.1))))) C kv_X7_137 (m_X7_comes (by omega)) dX7_readLane_94 rfl rfl rfl rfl rfl rfl ⟨0, rfl⟩ rfl rfl ?_
        have hA : rdLn tx ln (sp, wr) = ((r1.1, r3.1, r5.1, r7.1), r7.2) := by
          unfold rdLn
          simp only [e_r1, show rdS tx ln 45 r1.2 = r2 from e_r2, show rdN tx ln 0 13 r2 = r3 from e_r3, show rdS tx ln 42 r3.2 = r4 from e_r4, show rdN tx ln 1 20 r4 = r5 from e_r5, show rdS tx ln 58 r5.2 = r6 from e_r6, show rdN tx ln 0 3 r6 = r7 from e_r7]
        have hTA : tpR g ((0, false), (true, r1.1, r3.1, r5.1, r7.1)) = refL (kL g) (nI r1.1) (nI r3.1) (nI r5.1) := rfl
        have hTG : tpG g ((0, false), (true, r1.1, r3.1, r5.1, r7.1)) = gAdd g r1.1 r3.1 r5.1 r7.1 := rfl
        have hEA : erL (kL g) (nI r1.1) (nI r3.1) (nI r5.1) (nI r7.1) = refL (kL g) (nI r1.1) (nI r3.1) (nI r5.1) := erL_n (by omega) (by omega) (by omega)
        have hE : er3 dn g er ((0, false), (true, r1.1, r3.1, r5.1, r7.1)) = refL (kL g) (nI r1.1) (nI r3.1) (nI r5.1) := (if_pos (by rw [c_52, decide_eq_true c_59]; rfl)).trans hTA
        have hG : rpG dn g er ((0, false), (true, r1.1, r3.1, r5.1, r7.1)) = tpG g ((0, false), (true, r1.1, r3.1, r5.1, r7.1)) := if_pos (by rw [hE, ← hEA, decide_eq_true c_84, c_52]; rfl)
        exact zj_vretF C hr hlocks dX7_readLane_97 (by rw [hA]; show _ = (mB G m (rpG dn g er ((0, false), (true, r1.1, r3.1, r5.1, r7.1))) ga gh kn gk kp tx ln iz wy wa tt rr we r7.2.1 r7.2.2 (er3 dn g er ((0, false), (true, r1.1, r3.1, r5.1, r7.1)))).flatten; rw [hG, hE]; rw [hTG, hEA])
