theorem Vk_x {g : Nat → Nat} (hv : Vk g) {i : Nat} (hi : i < kL g) : i < 25 ∧ lnC g i 0 < 14 ∧ lnC g i 1 < 14 ∧ lnC g i 0 ≠ lnC g i 1 ∧ 1 ≤ lnC g i 2 ∧ lnC g i 2 ≤ 20 ∧ lnC g i 3 < 4 ∧ lnC g i 4 ≤ 1 := ⟨Nat.lt_of_lt_of_le hi hv.1, hv.2.2.2.1 i hi⟩
theorem Vk_a {g : Nat → Nat} (hv : Vk g) {i : Nat} (hi : i < kA g) : i < 12 ∧ alC g i 0 < 14 ∧ alC g i 1 ≤ 20 ∧ alC g i 2 < 4 := ⟨Nat.lt_of_lt_of_le hi hv.2.1, hv.2.2.2.2 i hi⟩
theorem clkB_v (g : Nat → Nat) (x y : Nat) : clkB g x y = if g x = 0 ∧ g y = 0 then -5 else if (decide (g y < g x) || (decide (g x = g y) && decide (y < x))) = true then nI x else nI y := by
  unfold clkB hasB
  by_cases h : g x = 0 ∧ g y = 0
  · rw [if_pos h, if_neg (by simp [h.1, h.2])]
  · rw [if_neg h, if_pos (by by_cases h1 : g x = 0 <;> by_cases h2 : g y = 0 <;> simp [h1, h2] <;> exact h ⟨h1, h2⟩)]
    unfold ckB
    by_cases h1 : g x = g y
    · rw [if_pos h1]
      by_cases h2 : y < x
      · rw [if_pos (by simp [h1, h2]), Nat.max_eq_left (by omega)]
      · rw [if_neg (by simp [h1, h2]), Nat.max_eq_right (by omega)]
    · rw [if_neg h1]
      by_cases h2 : g y < g x
      · rw [if_pos h2, if_pos (by simp [h2])]
      · rw [if_neg h2, if_neg (by simp [h1, h2])]
theorem clkI_k {g : Nat → Nat} (hv : Vk g) {i : Nat} (hi : i < kL g) : clkI g i = -5 ↔ hasCk g i = false := clkB_5 (Vk_x hv hi).2.1 (Vk_x hv hi).2.2.1
theorem kL_eq {g : Nat → Nat} : g 14 = kL g := rfl
theorem kA_eq {g : Nat → Nat} : g 140 = kA g := rfl

set_option maxRecDepth 100000 in
set_option maxHeartbeats 4000000 in
theorem m_X7_clerkOf {l : Launch} {G : GG} {m : Nat → Nat} {g ga gh : Nat → Nat} {kn : Nat} {gk : Nat → Nat} {kp : Bool} {tx : Nat → Nat} {ln : Nat} {iz wy wa tt rr we : Nat → Nat} {sp : Nat} {wr : Bool} {er : Int32} {i : Nat} (hv : Vk g) (hi : i < kL g) : zX l G yX7_clerkOf cX7_clerkOf 5 (some .int) 1 22 0 0 [.ref (m 0), .int (nI (i))] (mB G m g ga gh kn gk kp tx ln iz wy wa tt rr we sp wr er).flatten (zF (some (.int (clkI g i))) (mB G m g ga gh kn gk kp tx ln iz wy wa tt rr we sp wr er).flatten) := by
  refine zj_startF RX7 (by decide +kernel) rfl rfl rfl (bs := (mB G m g ga gh kn gk kp tx ln iz wy wa tt rr we sp wr er)) rfl (lo := [some (.ref (m 0)), some (.int (nI (i))), none, none, none]) rfl ?_
  intro p0 e0 s0 m0 args0 below0 meth0 c0 A0 C hr hlocks
  obtain ⟨h25, h0, h1, -⟩ := Vk_x hv hi
  have r0 := hv.2.2.1 _ h0
  have r1 := hv.2.2.1 _ h1
  have hc := clkB_v g (lnC g i 0) (lnC g i 1)
  change clkI g i = _ at hc
  refine zj_aload_n (pc := 0) C dX7_clerkOf_0 rfl ?_
  refine zj_iload_n (pc := 1) C dX7_clerkOf_1 rfl ?_
  refine zj_iconst (pc := 2) (v := nI 0) C dX7_clerkOf_2 (by decide) ?_
  refine zq_callP (pc := 3) C kv_X7_51 (m_X7_of (by omega) (by decide)) dX7_clerkOf_3 rfl rfl rfl rfl rfl rfl ⟨0, rfl⟩ rfl rfl ?_
  refine zj_istore_n (pc := 6) C dX7_clerkOf_6 (Nat.le_of_ble_eq_true rfl) ?_
  refine zj_aload_n (pc := 7) C dX7_clerkOf_7 rfl ?_
  refine zj_iload_n (pc := 8) C dX7_clerkOf_8 rfl ?_
  refine zj_iconst (pc := 9) (v := nI 1) C dX7_clerkOf_9 (by decide) ?_
  refine zq_callP (pc := 10) C kv_X7_51 (m_X7_of (by omega) (by decide)) dX7_clerkOf_10 rfl rfl rfl rfl rfl rfl ⟨0, rfl⟩ rfl rfl ?_
  refine zj_istore_n (pc := 13) C dX7_clerkOf_13 (Nat.le_of_ble_eq_true rfl) ?_
  refine zj_aload_n (pc := 14) C dX7_clerkOf_14 rfl ?_
  refine gf_X7_0 (pc := 15) C dX7_clerkOf_15 0 rfl ?_
  refine zj_iconst (pc := 18) (v := nI 0) C dX7_clerkOf_18 (by decide) ?_
  refine zj_iload_n (pc := 19) C dX7_clerkOf_19 rfl ?_
  refine zq_iadd (pc := 20) C dX7_clerkOf_20 ?_
  refine zj_top (x' := nI (lnC g i 0)) (congrArg nI (Nat.zero_add _)) ?_
  refine zq_iald (pc := 21) C dX7_clerkOf_21 1 rfl (by omega) (by decide) ?_
  refine zq_if_ne (pc := 22) 39 C dX7_clerkOf_22 (by decide) (by omega) (fun c_22 => ?_) (fun c_22 => ?_)
  · refine zq_mrg 87 [] (bI ((decide (g (lnC g i 1) < g (lnC g i 0)) || (decide (g (lnC g i 0) = g (lnC g i 1)) && decide (lnC g i 1 < lnC g i 0))))) ?_ (fun kk => ?_)
    · refine zj_istore (pc := 87) C dX7_clerkOf_87 (Nat.le_of_ble_eq_true rfl) ?_
      refine zq_mrg 99 [] (clkI g i) ?_ (fun kk => ?_)
      · exact zj_iretF C hr hlocks dX7_clerkOf_99 rfl rfl
      · refine zj_iload (pc := 89) C dX7_clerkOf_89 rfl ?_
        refine zj_ifb_eq (pc := 91) 98 C dX7_clerkOf_91 (by decide) (fun c_91 => ?_) (fun c_91 => ?_)
        · refine zj_iload_n (pc := 98) C dX7_clerkOf_98 rfl ?_
          exact zj_top (x' := clkI g i) (by rw [hc, if_neg (fun h => c_22 h.1), if_neg (by rw [c_91]; decide)]) kk
        · refine zj_iload_n (pc := 94) C dX7_clerkOf_94 rfl ?_
          refine zj_goto (pc := 95) (tgt := 99) C dX7_clerkOf_95 (by decide) ?_
          exact zj_top (x' := clkI g i) (by rw [hc, if_neg (fun h => c_22 h.1), if_pos c_91]) kk
    · refine zj_aload_n (pc := 39) C dX7_clerkOf_39 rfl ?_
      refine gf_X7_0 (pc := 40) C dX7_clerkOf_40 0 rfl ?_
      refine zj_iconst (pc := 43) (v := nI 0) C dX7_clerkOf_43 (by decide) ?_
      refine zj_iload_n (pc := 44) C dX7_clerkOf_44 rfl ?_
      refine zq_iadd (pc := 45) C dX7_clerkOf_45 ?_
      refine zj_top (x' := nI (lnC g i 0)) (congrArg nI (Nat.zero_add _)) ?_
      refine zq_iald (pc := 46) C dX7_clerkOf_46 1 rfl (by omega) (by decide) ?_
      refine zj_aload_n (pc := 47) C dX7_clerkOf_47 rfl ?_
      refine gf_X7_0 (pc := 48) C dX7_clerkOf_48 0 rfl ?_
      refine zj_iconst (pc := 51) (v := nI 0) C dX7_clerkOf_51 (by decide) ?_
      refine zj_iload_n (pc := 52) C dX7_clerkOf_52 rfl ?_
      refine zq_iadd (pc := 53) C dX7_clerkOf_53 ?_
      refine zj_top (x' := nI (lnC g i 1)) (congrArg nI (Nat.zero_add _)) ?_
      refine zq_iald (pc := 54) C dX7_clerkOf_54 1 rfl (by omega) (by decide) ?_
      refine zq_icmp_gt (pc := 55) 82 C dX7_clerkOf_55 (by decide) (by omega) (by omega) (fun c_55 => ?_) (fun c_55 => ?_)
      · refine zj_iconst (pc := 82) (v := nI 1) C dX7_clerkOf_82 (by decide) ?_
        refine zj_goto (pc := 83) (tgt := 87) C dX7_clerkOf_83 (by decide) ?_
        exact zj_top (x' := bI ((decide (g (lnC g i 1) < g (lnC g i 0)) || (decide (g (lnC g i 0) = g (lnC g i 1)) && decide (lnC g i 1 < lnC g i 0))))) (zq_t (by first | rfl | (simp [c_55]; done) | (simp [c_55]; omega) | omega | (split <;> first | rfl | omega))) kk
      · refine zj_aload_n (pc := 58) C dX7_clerkOf_58 rfl ?_
        refine gf_X7_0 (pc := 59) C dX7_clerkOf_59 0 rfl ?_
        refine zj_iconst (pc := 62) (v := nI 0) C dX7_clerkOf_62 (by decide) ?_
        refine zj_iload_n (pc := 63) C dX7_clerkOf_63 rfl ?_
        refine zq_iadd (pc := 64) C dX7_clerkOf_64 ?_
        refine zj_top (x' := nI (lnC g i 0)) (congrArg nI (Nat.zero_add _)) ?_
        refine zq_iald (pc := 65) C dX7_clerkOf_65 1 rfl (by omega) (by decide) ?_
        refine zj_aload_n (pc := 66) C dX7_clerkOf_66 rfl ?_
        refine gf_X7_0 (pc := 67) C dX7_clerkOf_67 0 rfl ?_
        refine zj_iconst (pc := 70) (v := nI 0) C dX7_clerkOf_70 (by decide) ?_
        refine zj_iload_n (pc := 71) C dX7_clerkOf_71 rfl ?_
        refine zq_iadd (pc := 72) C dX7_clerkOf_72 ?_
        refine zj_top (x' := nI (lnC g i 1)) (congrArg nI (Nat.zero_add _)) ?_
        refine zq_iald (pc := 73) C dX7_clerkOf_73 1 rfl (by omega) (by decide) ?_
        refine zq_icmp_ne (pc := 74) 86 C dX7_clerkOf_74 (by decide) (by omega) (by omega) (fun c_74 => ?_) (fun c_74 => ?_)
        · refine zj_iconst (pc := 86) (v := nI 0) C dX7_clerkOf_86 (by decide) ?_
          exact zj_top (x' := bI ((decide (g (lnC g i 1) < g (lnC g i 0)) || (decide (g (lnC g i 0) = g (lnC g i 1)) && decide (lnC g i 1 < lnC g i 0))))) (zq_f (by first | rfl | (simp [c_55, c_74]; done) | (simp [c_55, c_74]; omega) | omega | (split <;> first | rfl | omega))) kk
        · refine zj_iload_n (pc := 77) C dX7_clerkOf_77 rfl ?_
          refine zj_iload_n (pc := 78) C dX7_clerkOf_78 rfl ?_
          refine zq_icmp_le (pc := 79) 86 C dX7_clerkOf_79 (by decide) (by omega) (by omega) (fun c_79 => ?_) (fun c_79 => ?_)
          · refine zj_iconst (pc := 86) (v := nI 0) C dX7_clerkOf_86 (by decide) ?_
            exact zj_top (x' := bI ((decide (g (lnC g i 1) < g (lnC g i 0)) || (decide (g (lnC g i 0) = g (lnC g i 1)) && decide (lnC g i 1 < lnC g i 0))))) (zq_f (by first | rfl | (simp [c_55, c_74, c_79]; done) | (simp [c_55, c_74, c_79]; omega) | omega | (split <;> first | rfl | omega))) kk
          · refine zj_iconst (pc := 82) (v := nI 1) C dX7_clerkOf_82 (by decide) ?_
            refine zj_goto (pc := 83) (tgt := 87) C dX7_clerkOf_83 (by decide) ?_
            exact zj_top (x' := bI ((decide (g (lnC g i 1) < g (lnC g i 0)) || (decide (g (lnC g i 0) = g (lnC g i 1)) && decide (lnC g i 1 < lnC g i 0))))) (zq_t (by first | rfl | (simp [c_55, c_74, c_79]; done) | (simp [c_55, c_74, c_79]; omega) | omega | (split <;> first | rfl | omega))) kk
  · refine zj_aload_n (pc := 25) C dX7_clerkOf_25 rfl ?_
    refine gf_X7_0 (pc := 26) C dX7_clerkOf_26 0 rfl ?_
    refine zj_iconst (pc := 29) (v := nI 0) C dX7_clerkOf_29 (by decide) ?_
    refine zj_iload_n (pc := 30) C dX7_clerkOf_30 rfl ?_
    refine zq_iadd (pc := 31) C dX7_clerkOf_31 ?_
    refine zj_top (x' := nI (lnC g i 1)) (congrArg nI (Nat.zero_add _)) ?_
    refine zq_iald (pc := 32) C dX7_clerkOf_32 1 rfl (by omega) (by decide) ?_
    refine zq_if_ne (pc := 33) 39 C dX7_clerkOf_33 (by decide) (by omega) (fun c_33 => ?_) (fun c_33 => ?_)
    · refine zq_mrg 87 [] (bI ((decide (g (lnC g i 1) < g (lnC g i 0)) || (decide (g (lnC g i 0) = g (lnC g i 1)) && decide (lnC g i 1 < lnC g i 0))))) ?_ (fun kk => ?_)
      · refine zj_istore (pc := 87) C dX7_clerkOf_87 (Nat.le_of_ble_eq_true rfl) ?_
        refine zq_mrg 99 [] (clkI g i) ?_ (fun kk => ?_)
        · exact zj_iretF C hr hlocks dX7_clerkOf_99 rfl rfl
        · refine zj_iload (pc := 89) C dX7_clerkOf_89 rfl ?_
          refine zj_ifb_eq (pc := 91) 98 C dX7_clerkOf_91 (by decide) (fun c_91 => ?_) (fun c_91 => ?_)
          · refine zj_iload_n (pc := 98) C dX7_clerkOf_98 rfl ?_
            exact zj_top (x' := clkI g i) (by rw [hc, if_neg (fun h => c_33 h.2), if_neg (by rw [c_91]; decide)]) kk
          · refine zj_iload_n (pc := 94) C dX7_clerkOf_94 rfl ?_
            refine zj_goto (pc := 95) (tgt := 99) C dX7_clerkOf_95 (by decide) ?_
            exact zj_top (x' := clkI g i) (by rw [hc, if_neg (fun h => c_33 h.2), if_pos c_91]) kk
      · refine zj_aload_n (pc := 39) C dX7_clerkOf_39 rfl ?_
        refine gf_X7_0 (pc := 40) C dX7_clerkOf_40 0 rfl ?_
        refine zj_iconst (pc := 43) (v := nI 0) C dX7_clerkOf_43 (by decide) ?_
        refine zj_iload_n (pc := 44) C dX7_clerkOf_44 rfl ?_
        refine zq_iadd (pc := 45) C dX7_clerkOf_45 ?_
        refine zj_top (x' := nI (lnC g i 0)) (congrArg nI (Nat.zero_add _)) ?_
        refine zq_iald (pc := 46) C dX7_clerkOf_46 1 rfl (by omega) (by decide) ?_
        refine zj_aload_n (pc := 47) C dX7_clerkOf_47 rfl ?_
        refine gf_X7_0 (pc := 48) C dX7_clerkOf_48 0 rfl ?_
        refine zj_iconst (pc := 51) (v := nI 0) C dX7_clerkOf_51 (by decide) ?_
        refine zj_iload_n (pc := 52) C dX7_clerkOf_52 rfl ?_
        refine zq_iadd (pc := 53) C dX7_clerkOf_53 ?_
        refine zj_top (x' := nI (lnC g i 1)) (congrArg nI (Nat.zero_add _)) ?_
        refine zq_iald (pc := 54) C dX7_clerkOf_54 1 rfl (by omega) (by decide) ?_
        refine zq_icmp_gt (pc := 55) 82 C dX7_clerkOf_55 (by decide) (by omega) (by omega) (fun c_55 => ?_) (fun c_55 => ?_)
        · refine zj_iconst (pc := 82) (v := nI 1) C dX7_clerkOf_82 (by decide) ?_
          refine zj_goto (pc := 83) (tgt := 87) C dX7_clerkOf_83 (by decide) ?_
          exact zj_top (x' := bI ((decide (g (lnC g i 1) < g (lnC g i 0)) || (decide (g (lnC g i 0) = g (lnC g i 1)) && decide (lnC g i 1 < lnC g i 0))))) (zq_t (by first | rfl | (simp [c_55]; done) | (simp [c_55]; omega) | omega | (split <;> first | rfl | omega))) kk
        · refine zj_aload_n (pc := 58) C dX7_clerkOf_58 rfl ?_
          refine gf_X7_0 (pc := 59) C dX7_clerkOf_59 0 rfl ?_
          refine zj_iconst (pc := 62) (v := nI 0) C dX7_clerkOf_62 (by decide) ?_
          refine zj_iload_n (pc := 63) C dX7_clerkOf_63 rfl ?_
          refine zq_iadd (pc := 64) C dX7_clerkOf_64 ?_
          refine zj_top (x' := nI (lnC g i 0)) (congrArg nI (Nat.zero_add _)) ?_
          refine zq_iald (pc := 65) C dX7_clerkOf_65 1 rfl (by omega) (by decide) ?_
          refine zj_aload_n (pc := 66) C dX7_clerkOf_66 rfl ?_
          refine gf_X7_0 (pc := 67) C dX7_clerkOf_67 0 rfl ?_
          refine zj_iconst (pc := 70) (v := nI 0) C dX7_clerkOf_70 (by decide) ?_
          refine zj_iload_n (pc := 71) C dX7_clerkOf_71 rfl ?_
          refine zq_iadd (pc := 72) C dX7_clerkOf_72 ?_
          refine zj_top (x' := nI (lnC g i 1)) (congrArg nI (Nat.zero_add _)) ?_
          refine zq_iald (pc := 73) C dX7_clerkOf_73 1 rfl (by omega) (by decide) ?_
          refine zq_icmp_ne (pc := 74) 86 C dX7_clerkOf_74 (by decide) (by omega) (by omega) (fun c_74 => ?_) (fun c_74 => ?_)
          · refine zj_iconst (pc := 86) (v := nI 0) C dX7_clerkOf_86 (by decide) ?_
            exact zj_top (x' := bI ((decide (g (lnC g i 1) < g (lnC g i 0)) || (decide (g (lnC g i 0) = g (lnC g i 1)) && decide (lnC g i 1 < lnC g i 0))))) (zq_f (by first | rfl | (simp [c_55, c_74]; done) | (simp [c_55, c_74]; omega) | omega | (split <;> first | rfl | omega))) kk
          · refine zj_iload_n (pc := 77) C dX7_clerkOf_77 rfl ?_
            refine zj_iload_n (pc := 78) C dX7_clerkOf_78 rfl ?_
            refine zq_icmp_le (pc := 79) 86 C dX7_clerkOf_79 (by decide) (by omega) (by omega) (fun c_79 => ?_) (fun c_79 => ?_)
            · refine zj_iconst (pc := 86) (v := nI 0) C dX7_clerkOf_86 (by decide) ?_
              exact zj_top (x' := bI ((decide (g (lnC g i 1) < g (lnC g i 0)) || (decide (g (lnC g i 0) = g (lnC g i 1)) && decide (lnC g i 1 < lnC g i 0))))) (zq_f (by first | rfl | (simp [c_55, c_74, c_79]; done) | (simp [c_55, c_74, c_79]; omega) | omega | (split <;> first | rfl | omega))) kk
            · refine zj_iconst (pc := 82) (v := nI 1) C dX7_clerkOf_82 (by decide) ?_
              refine zj_goto (pc := 83) (tgt := 87) C dX7_clerkOf_83 (by decide) ?_
              exact zj_top (x' := bI ((decide (g (lnC g i 1) < g (lnC g i 0)) || (decide (g (lnC g i 0) = g (lnC g i 1)) && decide (lnC g i 1 < lnC g i 0))))) (zq_t (by first | rfl | (simp [c_55, c_74, c_79]; done) | (simp [c_55, c_74, c_79]; omega) | omega | (split <;> first | rfl | omega))) kk
    · rw [if_pos ⟨c_22, c_33⟩] at hc
      refine zj_bipush (pc := 36) (v := (-5)) C dX7_clerkOf_36 (by decide) ?_
      exact zj_iretF C hr hlocks dX7_clerkOf_38 hc.symm rfl
set_option maxRecDepth 100000 in
set_option maxHeartbeats 4000000 in
theorem m_X7_isTold {l : Launch} {G : GG} {m : Nat → Nat} {g ga gh : Nat → Nat} {kn : Nat} {gk : Nat → Nat} {kp : Bool} {tx : Nat → Nat} {ln : Nat} {iz wy wa tt rr we : Nat → Nat} {sp : Nat} {wr : Bool} {er : Int32} {i : Nat} (hv : Vk g) (hi : i < kL g) : zX l G yX7_isTold cX7_isTold 2 (some .boolean) 2 46 0 0 [.ref (m 0), .int (nI (i))] (mB G m g ga gh kn gk kp tx ln iz wy wa tt rr we sp wr er).flatten (zF (some (.int (bI (told g i)))) (mB G m g ga gh kn gk kp tx ln iz wy wa tt rr we sp wr er).flatten) := by
  refine zj_startF RX7 (by decide +kernel) rfl rfl rfl (bs := (mB G m g ga gh kn gk kp tx ln iz wy wa tt rr we sp wr er)) rfl (lo := [some (.ref (m 0)), some (.int (nI (i)))]) rfl ?_
  intro p0 e0 s0 m0 args0 below0 meth0 c0 A0 C hr hlocks
  obtain ⟨h25, -, -, -, -, -, -, h4⟩ := Vk_x hv hi
  have hk := clkI_k hv hi
  refine zq_mrg 24 [] (bI (told g i)) ?_ (fun kk => ?_)
  · exact zj_zretF C hr hlocks dX7_isTold_24 rfl rfl
  · refine zj_aload_n (pc := 0) C dX7_isTold_0 rfl ?_
    refine zj_iload_n (pc := 1) C dX7_isTold_1 rfl ?_
    refine zj_iconst (pc := 2) (v := nI 4) C dX7_isTold_2 (by decide) ?_
    refine zq_callP (pc := 3) C kv_X7_51 (m_X7_of (by omega) (by decide)) dX7_isTold_3 rfl rfl rfl rfl rfl rfl ⟨0, rfl⟩ rfl rfl ?_
    refine zq_if_ne (pc := 6) 23 C dX7_isTold_6 (by decide) (by omega) (fun c_6 => ?_) (fun c_6 => ?_)
    · refine zj_iconst (pc := 23) (v := nI 0) C dX7_isTold_23 (by decide) ?_
      exact zj_top (x' := bI (told g i)) (zq_f (by unfold told; simp [c_6])) kk
    · refine zj_aload_n (pc := 9) C dX7_isTold_9 rfl ?_
      refine zj_iload_n (pc := 10) C dX7_isTold_10 rfl ?_
      refine zq_callP (pc := 11) C kv_X7_55 (m_X7_clerkOf hv hi) dX7_isTold_11 rfl rfl rfl rfl rfl rfl ⟨0, rfl⟩ rfl rfl ?_
      refine zj_bipush (pc := 14) (v := (-5)) C dX7_isTold_14 (by decide) ?_
      refine zj_icmp_eq (pc := 16) 23 C dX7_isTold_16 (by decide) (fun c_16 => ?_) (fun c_16 => ?_)
      · refine zj_iconst (pc := 23) (v := nI 0) C dX7_isTold_23 (by decide) ?_
        exact zj_top (x' := bI (told g i)) (zq_f (by unfold told; rw [hk.mp c_16]; simp)) kk
      · refine zj_iconst (pc := 19) (v := nI 1) C dX7_isTold_19 (by decide) ?_
        refine zj_goto (pc := 20) (tgt := 24) C dX7_isTold_20 (by decide) ?_
        exact zj_top (x' := bI (told g i)) (zq_t (by unfold told; rw [c_6]; cases h : hasCk g i with | true => rfl | false => exact absurd (hk.mpr h) c_16)) kk
set_option maxRecDepth 100000 in
set_option maxHeartbeats 4000000 in
theorem m_X7_toldLanes {l : Launch} {G : GG} {m : Nat → Nat} {g ga gh : Nat → Nat} {kn : Nat} {gk : Nat → Nat} {kp : Bool} {tx : Nat → Nat} {ln : Nat} {iz wy wa tt rr we : Nat → Nat} {sp : Nat} {wr : Bool} {er : Int32} (hv : Vk g) : zX l G yX7_toldLanes cX7_toldLanes 3 (some .int) 3 67 0 0 [.ref (m 0)] (mB G m g ga gh kn gk kp tx ln iz wy wa tt rr we sp wr er).flatten (zF (some (.int (nI (cntB (told g) (kL g))))) (mB G m g ga gh kn gk kp tx ln iz wy wa tt rr we sp wr er).flatten) := by
  refine zj_startF RX7 (by decide +kernel) rfl rfl rfl (bs := (mB G m g ga gh kn gk kp tx ln iz wy wa tt rr we sp wr er)) rfl (lo := [some (.ref (m 0)), none, none]) rfl ?_
  intro p0 e0 s0 m0 args0 below0 meth0 c0 A0 C hr hlocks
  have hk : kL g ≤ 25 := hv.1
  have hke : kL g = g 14 := rfl
  refine zj_iconst (pc := 0) (v := nI 0) C dX7_toldLanes_0 (by decide) ?_
  refine zj_istore_n (pc := 1) C dX7_toldLanes_1 (Nat.le_of_ble_eq_true rfl) ?_
  refine zj_iconst (pc := 2) (v := nI 0) C dX7_toldLanes_2 (by decide) ?_
  refine zj_istore_n (pc := 3) C dX7_toldLanes_3 (Nat.le_of_ble_eq_true rfl) ?_
  refine zj_keep [true, true, true] ?_
  refine zq_loop1 (fun (k : Nat) => k ≤ kL g) (fun (k : Nat) => kL g - k) (fun (k : Nat) => (mB G m g ga gh kn gk kp tx ln iz wy wa tt rr we sp wr er)) (fun (k : Nat) => [some (.ref (m 0)), some (.int (nI (cntB (told g) k))), some (.int (nI (k)))]) ?_ 0 (Nat.zero_le _)
  intro k hI ih_4
  have hc := cntB_le (told g) k
  refine zj_iload_n (pc := 4) C dX7_toldLanes_4 rfl ?_
  refine zj_aload_n (pc := 5) C dX7_toldLanes_5 rfl ?_
  refine gf_X7_0 (pc := 6) C dX7_toldLanes_6 0 rfl ?_
  refine zj_bipush (pc := 9) (v := nI 14) C dX7_toldLanes_9 (by decide) ?_
  refine zq_iald (pc := 11) C dX7_toldLanes_11 1 rfl (by omega) (by decide) ?_
  refine zq_icmp_ge (pc := 12) 37 C dX7_toldLanes_12 (by decide) (by omega) (by omega) (fun c_12 => ?_) (fun c_12 => ?_)
  · refine zj_iload_n (pc := 37) C dX7_toldLanes_37 rfl ?_
    exact zj_iretF C hr hlocks dX7_toldLanes_38 (by rw [show k = kL g from Nat.le_antisymm hI c_12]) rfl
  · refine zq_mrg 30 [] (nI (cntB (told g) (k + 1))) ?_ (fun kk => ?_)
    · refine zj_istore_n (pc := 30) C dX7_toldLanes_30 (Nat.le_of_ble_eq_true rfl) ?_
      refine zj_iinc (pc := 31) (v := nI (k + 1)) C dX7_toldLanes_31 rfl (nI_1 _) ?_
      refine zj_goto (pc := 34) (tgt := 4) C dX7_toldLanes_34 (by decide) ?_
      refine zj_keep [true, true, true] ?_
      exact ih_4 (k + 1) (by omega) (by omega)
    · refine zj_iload_n (pc := 15) C dX7_toldLanes_15 rfl ?_
      refine zj_aload_n (pc := 16) C dX7_toldLanes_16 rfl ?_
      refine zj_iload_n (pc := 17) C dX7_toldLanes_17 rfl ?_
      refine zq_callP (pc := 18) C kv_X7_59 (m_X7_isTold hv (by omega)) dX7_toldLanes_18 rfl rfl rfl rfl rfl rfl ⟨0, rfl⟩ rfl rfl ?_
      refine zj_ifb_eq (pc := 21) 28 C dX7_toldLanes_21 (by decide) (fun c_21 => ?_) (fun c_21 => ?_)
      · refine zj_iconst (pc := 28) (v := nI 0) C dX7_toldLanes_28 (by decide) ?_
        refine zq_iadd (pc := 29) C dX7_toldLanes_29 ?_
        refine zj_top (x' := nI (cntB (told g) k)) rfl ?_
        exact zj_top (x' := nI (cntB (told g) (k + 1))) (congrArg nI (cntB_f c_21).symm) kk
      · refine zj_iconst (pc := 24) (v := nI 1) C dX7_toldLanes_24 (by decide) ?_
        refine zj_goto (pc := 25) (tgt := 29) C dX7_toldLanes_25 (by decide) ?_
        refine zq_iadd (pc := 29) C dX7_toldLanes_29 ?_
        exact zj_top (x' := nI (cntB (told g) (k + 1))) (congrArg nI (cntB_t c_21).symm) kk
set_option maxRecDepth 100000 in
set_option maxHeartbeats 4000000 in
theorem m_X7_otherEnd {l : Launch} {G : GG} {m : Nat → Nat} {g ga gh : Nat → Nat} {kn : Nat} {gk : Nat → Nat} {kp : Bool} {tx : Nat → Nat} {ln : Nat} {iz wy wa tt rr we : Nat → Nat} {sp : Nat} {wr : Bool} {er : Int32} {i y : Nat} (hv : Vk g) (hi : i < kL g) (hy : y < 14) : zX l G yX7_otherEnd cX7_otherEnd 3 (some .int) 1 22 0 0 [.ref (m 0), .int (nI (i)), .int (nI (y))] (mB G m g ga gh kn gk kp tx ln iz wy wa tt rr we sp wr er).flatten (zF (some (.int (optI (oeN g i y)))) (mB G m g ga gh kn gk kp tx ln iz wy wa tt rr we sp wr er).flatten) := by
  refine zj_startF RX7 (by decide +kernel) rfl rfl rfl (bs := (mB G m g ga gh kn gk kp tx ln iz wy wa tt rr we sp wr er)) rfl (lo := [some (.ref (m 0)), some (.int (nI (i))), some (.int (nI (y)))]) rfl ?_
  intro p0 e0 s0 m0 args0 below0 meth0 c0 A0 C hr hlocks
  obtain ⟨h25, h0, h1, -⟩ := Vk_x hv hi
  have ho : oeN g i y = (if lnC g i 0 = y then some (lnC g i 1) else if lnC g i 1 = y then some (lnC g i 0) else none) := if_pos hi
  refine zj_aload_n (pc := 0) C dX7_otherEnd_0 rfl ?_
  refine zj_iload_n (pc := 1) C dX7_otherEnd_1 rfl ?_
  refine zj_iconst (pc := 2) (v := nI 0) C dX7_otherEnd_2 (by decide) ?_
  refine zq_callP (pc := 3) C kv_X7_51 (m_X7_of (by omega) (by decide)) dX7_otherEnd_3 rfl rfl rfl rfl rfl rfl ⟨0, rfl⟩ rfl rfl ?_
  refine zj_iload_n (pc := 6) C dX7_otherEnd_6 rfl ?_
  refine zq_icmp_ne (pc := 7) 19 C dX7_otherEnd_7 (by decide) (by omega) (by omega) (fun c_7 => ?_) (fun c_7 => ?_)
  · refine zj_aload_n (pc := 19) C dX7_otherEnd_19 rfl ?_
    refine zj_iload_n (pc := 20) C dX7_otherEnd_20 rfl ?_
    refine zj_iconst (pc := 21) (v := nI 1) C dX7_otherEnd_21 (by decide) ?_
    refine zq_callP (pc := 22) C kv_X7_51 (m_X7_of (by omega) (by decide)) dX7_otherEnd_22 rfl rfl rfl rfl rfl rfl ⟨0, rfl⟩ rfl rfl ?_
    refine zj_iload_n (pc := 25) C dX7_otherEnd_25 rfl ?_
    refine zq_icmp_ne (pc := 26) 38 C dX7_otherEnd_26 (by decide) (by omega) (by omega) (fun c_26 => ?_) (fun c_26 => ?_)
    · refine zj_bipush (pc := 38) (v := (-5)) C dX7_otherEnd_38 (by decide) ?_
      exact zj_iretF C hr hlocks dX7_otherEnd_40 (by rw [ho, if_neg c_7, if_neg c_26]; rfl) rfl
    · refine zj_aload_n (pc := 29) C dX7_otherEnd_29 rfl ?_
      refine zj_iload_n (pc := 30) C dX7_otherEnd_30 rfl ?_
      refine zj_iconst (pc := 31) (v := nI 0) C dX7_otherEnd_31 (by decide) ?_
      refine zq_callP (pc := 32) C kv_X7_51 (m_X7_of (by omega) (by decide)) dX7_otherEnd_32 rfl rfl rfl rfl rfl rfl ⟨0, rfl⟩ rfl rfl ?_
      refine zj_goto (pc := 35) (tgt := 40) C dX7_otherEnd_35 (by decide) ?_
      exact zj_iretF C hr hlocks dX7_otherEnd_40 (by rw [ho, if_neg c_7, if_pos c_26]; rfl) rfl
  · refine zj_aload_n (pc := 10) C dX7_otherEnd_10 rfl ?_
    refine zj_iload_n (pc := 11) C dX7_otherEnd_11 rfl ?_
    refine zj_iconst (pc := 12) (v := nI 1) C dX7_otherEnd_12 (by decide) ?_
    refine zq_callP (pc := 13) C kv_X7_51 (m_X7_of (by omega) (by decide)) dX7_otherEnd_13 rfl rfl rfl rfl rfl rfl ⟨0, rfl⟩ rfl rfl ?_
    refine zj_goto (pc := 16) (tgt := 40) C dX7_otherEnd_16 (by decide) ?_
    exact zj_iretF C hr hlocks dX7_otherEnd_40 (by rw [ho, if_pos c_7]; rfl) rfl
