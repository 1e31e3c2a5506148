set_option maxRecDepth 100000 in
set_option maxHeartbeats 4000000 in
theorem m_X6_total {l : Launch} {G : GG} {ad : Nat → Nat → Nat} {q : Nat → Nat → Nat} {P Pd Ps : PC} {kp : Bool} {HP : Nat → PC} {hn : Nat} {t : Nat → Nat} {tn : Nat} {T : T7} {W1 W2 : TC} {st : Bool} {g : Nat → Nat} {x al w : Int32} (hP : PR g P) (hv : Vg g) (hW1 : TBT W1) : zX l G yX6_total cX6_total 4 (some .int) 7 163 0 0 [.ref (ad 0 0), .int x, .int al, .int w] (cls G ad q P Pd Ps kp HP hn t tn T W1 W2 st) (zF (some (.int (aTO g (wK g st W1) x al w))) (if (isC x && tHas (nI (kA g)) al) && (!(decide (w < 0)) && !(decide (3 < w))) then cls G ad q P Pd Ps kp HP hn t tn T (wK g st W1) W2 false else cls G ad q P Pd Ps kp HP hn t tn T W1 W2 st)) := by
  refine zj_startF RX6 (by decide +kernel) rfl rfl rfl (bs := [[((ad 0 0), .inr (6, [.ref (ad 1 0), .ref (ad 2 0), .ref (ad 3 0), .int (bI kp), .ref (ad 4 0), .ref (ad 5 0), .ref (ad 6 0), .ref (ad 7 0), .int (bI st)]))], plan G (ad 1) P, plan G (ad 2) Pd, plan G (ad 3) Ps, hist G (ad 4) q HP hn, text G (ad 5 0) (ad 5 1) t tn T, totT G (ad 6) W1, totT G (ad 7) W2]) rfl (lo := [some (.ref (ad 0 0)), some (.int x), some (.int al), some (.int w)]) rfl ?_
  intro p0 e0 s0 m0 args0 below0 meth0 c0 A0 C hr hlocks
  refine zj_iload_n (pc := 0) C dX6_total_0 rfl ?_
  refine zj_callSF (pc := 1) C kv_X6_53 (m_X6_isCrossing) dX6_total_1 rfl rfl rfl rfl rfl rfl ?_
  refine zj_ifb_eq (pc := 4) 18 C dX6_total_4 (by decide) (fun c_4 => ?_) (fun c_4 => ?_)
  · refine zj_iconst (pc := 18) (v := (-1)) C dX6_total_18 (by decide) ?_
    exact zj_iretF C hr hlocks dX6_total_19 (by unfold aTO; rw [if_neg (by simp [c_4])]) (by rw [if_neg (by simp [c_4])]; rfl)
  · refine zj_aload_n (pc := 7) C dX6_total_7 rfl ?_
    refine gf_X6_0 (pc := 8) C dX6_total_8 0 rfl ?_
    refine zj_iload_n (pc := 11) C dX6_total_11 rfl ?_
    refine zj_callP1 (pc := 12) C kv_X6_102 (m_X1_hasAlley hP) dX6_total_12 1 rfl rfl rfl rfl rfl rfl rfl ⟨0, rfl⟩ rfl rfl ?_
    refine zj_ifb_ne (pc := 15) 20 C dX6_total_15 (by decide) (fun c_15 => ?_) (fun c_15 => ?_)
    · refine zj_iload_n (pc := 20) C dX6_total_20 rfl ?_
      refine zj_if_lt (pc := 21) 29 C dX6_total_21 (by decide) (fun c_21 => ?_) (fun c_21 => ?_)
      · refine zj_bipush (pc := 29) (v := (-2)) C dX6_total_29 (by decide) ?_
        have hw : ¬ (!(decide (w < 0)) && !(decide (3 < w))) = true := by simp [c_21]
        exact zj_iretF C hr hlocks dX6_total_31 (by unfold aTO; rw [if_pos (by simp [c_4, c_15]), if_pos (Or.inl c_21)]) (by rw [if_neg (fun h => hw (by simp only [Bool.and_eq_true] at h ⊢; exact h.2))]; rfl)
      · refine zj_iload_n (pc := 24) C dX6_total_24 rfl ?_
        refine zj_iconst (pc := 25) (v := 3) C dX6_total_25 (by decide) ?_
        refine zj_icmp_le (pc := 26) 32 C dX6_total_26 (by decide) (fun c_26 => ?_) (fun c_26 => ?_)
        · obtain ⟨x0, hx0, hxx0⟩ := isC_n c_4
          have hnx0 : x.toNatClampNeg = x0 := by rw [hxx0]; exact nI_clamp (by have := hv.2.1; omega)
          obtain ⟨al0, hal0, hxal0⟩ := tHas_s (by have := hv.2.1; omega) c_15
          have hnal0 : al.toNatClampNeg = al0 := by rw [hxal0]; exact nI_clamp (by have := hv.2.1; omega)
          refine zj_loc (lo' := [some (.ref (ad 0 0)), some (.int (nI x0)), some (.int (nI al0)), some (.int w)]) (by rw [hxx0, hxal0]) ?_
          refine zj_aload_n (pc := 32) C dX6_total_32 rfl ?_
          refine zj_callA (pc := 33) C kv_X6_156 (m_X6_workOut hP hv hW1) dX6_total_33 [0, 1, 2, 3, 4, 5, 6, 7] [] rfl rfl rfl rfl rfl rfl rfl rfl ⟨0, rfl⟩ rfl rfl (fun v w1 hq => ?_)
          obtain ⟨rfl, rfl⟩ := hq
          refine zj_blk (bs' := [[((ad 0 0), .inr (6, [.ref (ad 1 0), .ref (ad 2 0), .ref (ad 3 0), .int (bI kp), .ref (ad 4 0), .ref (ad 5 0), .ref (ad 6 0), .ref (ad 7 0), .int (bI false)]))], plan G (ad 1) P, plan G (ad 2) Pd, plan G (ad 3) Ps, hist G (ad 4) q HP hn, text G (ad 5 0) (ad 5 1) t tn T, totT G (ad 6) (wK g st W1), totT G (ad 7) W2]) rfl ?_
          have hWK : TBT (wK g st W1) := wK_TBT hv hW1
          refine zj_aload_n (pc := 36) C dX6_total_36 rfl ?_
          refine gf_X6_6 (pc := 37) C dX6_total_37 0 rfl ?_
          refine zj_iload_n (pc := 40) C dX6_total_40 rfl ?_
          refine zj_iload_n (pc := 41) C dX6_total_41 rfl ?_
          refine zj_callP1 (pc := 42) C kv_X6_186 (m_X4_hasTotal hx0 (by have := hv.2.1; omega) (hWK.1.2.2.2.2 _ (by have := hv.2.1; omega))) dX6_total_42 6 rfl rfl rfl rfl rfl rfl rfl ⟨0, rfl⟩ rfl rfl ?_
          refine zj_ifb_ne (pc := 45) 51 C dX6_total_45 (by decide) (fun c_45 => ?_) (fun c_45 => ?_)
          · refine zj_iload_n (pc := 51) C dX6_total_51 rfl ?_
            rcases sw_3 w with hw9 | hw9 | hw9 | hw9
            · refine zj_top (x' := 0) hw9 ?_
              refine zj_tableIn (pc := 52) 80 C dX6_total_52 (by decide) (by decide) rfl (by decide) ?_
              refine zj_aload_n (pc := 80) C dX6_total_80 rfl ?_
              refine gf_X6_6 (pc := 81) C dX6_total_81 0 rfl ?_
              refine zj_iload_n (pc := 84) C dX6_total_84 rfl ?_
              refine zj_iload_n (pc := 85) C dX6_total_85 rfl ?_
              refine zj_callP1 (pc := 86) C kv_X6_190 (m_X4_sumFor hx0 (by have := hv.2.1; omega)) dX6_total_86 6 rfl rfl rfl rfl rfl rfl rfl ⟨0, rfl⟩ rfl rfl ?_
              have h99 : ¬ 3 < w := Int32.not_lt.mpr c_26
              have hor : ¬ (w < 0 ∨ 3 < w) := fun h => h.elim c_21 h99
              exact zj_iretF C hr hlocks dX6_total_89 (by unfold aTO; rw [if_pos (by simp [c_4, c_15]), if_neg hor, hnx0, hnal0, if_pos (show hsT _ _ _ = true from c_45)]; simp [hw9]) (by rw [if_pos (by simp [c_4, c_15, c_21, h99])]; rfl)
            · refine zj_top (x' := 1) hw9 ?_
              refine zj_tableIn (pc := 52) 90 C dX6_total_52 (by decide) (by decide) rfl (by decide) ?_
              refine zj_aload_n (pc := 90) C dX6_total_90 rfl ?_
              refine gf_X6_6 (pc := 91) C dX6_total_91 0 rfl ?_
              refine zj_iload_n (pc := 94) C dX6_total_94 rfl ?_
              refine zj_iload_n (pc := 95) C dX6_total_95 rfl ?_
              refine zj_callP1 (pc := 96) C kv_X6_193 (m_X4_ruleFor hx0 (by have := hv.2.1; omega)) dX6_total_96 6 rfl rfl rfl rfl rfl rfl rfl ⟨0, rfl⟩ rfl rfl ?_
              have h99 : ¬ 3 < w := Int32.not_lt.mpr c_26
              have hor : ¬ (w < 0 ∨ 3 < w) := fun h => h.elim c_21 h99
              exact zj_iretF C hr hlocks dX6_total_99 (by unfold aTO; rw [if_pos (by simp [c_4, c_15]), if_neg hor, hnx0, hnal0, if_pos (show hsT _ _ _ = true from c_45)]; simp [hw9]) (by rw [if_pos (by simp [c_4, c_15, c_21, h99])]; rfl)
            · refine zj_top (x' := 2) hw9 ?_
              refine zj_tableIn (pc := 52) 100 C dX6_total_52 (by decide) (by decide) rfl (by decide) ?_
              refine zj_aload_n (pc := 100) C dX6_total_100 rfl ?_
              refine gf_X6_0 (pc := 101) C dX6_total_101 0 rfl ?_
              refine zj_aload_n (pc := 104) C dX6_total_104 rfl ?_
              refine zj_iload_n (pc := 105) C dX6_total_105 rfl ?_
              refine zj_iload_n (pc := 106) C dX6_total_106 rfl ?_
              refine zj_callPA (pc := 107) C kv_X6_196 (m_X6_firstStep hP hv hWK hx0 hal0) dX6_total_107 [0, 1, 2, 3, 4, 5, 6, 7] [] rfl rfl rfl rfl rfl rfl rfl rfl ⟨0, rfl⟩ rfl rfl ?_
              cases hfs : fsN g (wK g st W1) x0 al0 24 with
              | none =>
                refine zj_iload_n (pc := 110) C dX6_total_110 rfl ?_
                refine zj_callP1 (pc := 111) C kv_X6_199 (m_X1_otherEndN hP) dX6_total_111 1 rfl rfl rfl rfl rfl rfl rfl ⟨0, rfl⟩ rfl rfl ?_
                have h99 : ¬ 3 < w := Int32.not_lt.mpr c_26
                have hor : ¬ (w < 0 ∨ 3 < w) := fun h => h.elim c_21 h99
                exact zj_iretF C hr hlocks dX6_total_114 (by unfold aTO; rw [if_pos (by simp [c_4, c_15]), if_neg hor, hnx0, hnal0, if_pos (show hsT _ _ _ = true from c_45), hfs]; simp [hw9, optI]) (by rw [if_pos (by simp [c_4, c_15, c_21, h99])]; rfl)
              | some b0 =>
                refine zj_iload_n (pc := 110) C dX6_total_110 rfl ?_
                refine zj_callP1 (pc := 111) C kv_X6_199 (m_X1_otherEnd (i := b0) hP hv (by have := (fsN_s hfs).2; omega) hx0) dX6_total_111 1 rfl rfl rfl rfl rfl rfl rfl ⟨0, rfl⟩ rfl rfl ?_
                have h99 : ¬ 3 < w := Int32.not_lt.mpr c_26
                have hor : ¬ (w < 0 ∨ 3 < w) := fun h => h.elim c_21 h99
                exact zj_iretF C hr hlocks dX6_total_114 (by unfold aTO; rw [if_pos (by simp [c_4, c_15]), if_neg hor, hnx0, hnal0, if_pos (show hsT _ _ _ = true from c_45), hfs]; simp [hw9]) (by rw [if_pos (by simp [c_4, c_15, c_21, h99])]; rfl)
            · refine zj_tableOut (pc := 52) 115 C dX6_total_52 hw9 (by decide) ?_
              refine zj_aload_n (pc := 115) C dX6_total_115 rfl ?_
              refine zj_iload_n (pc := 116) C dX6_total_116 rfl ?_
              refine zj_iload_n (pc := 117) C dX6_total_117 rfl ?_
              refine zj_callPA (pc := 118) C kv_X6_202 (m_X6_stepEnds hP hv hWK hx0 hal0) dX6_total_118 [0, 1, 2, 3, 4, 5, 6, 7] [] rfl rfl rfl rfl rfl rfl rfl rfl ⟨0, rfl⟩ rfl rfl ?_
              have h99 : ¬ 3 < w := Int32.not_lt.mpr c_26
              have hor : ¬ (w < 0 ∨ 3 < w) := fun h => h.elim c_21 h99
              exact zj_iretF C hr hlocks dX6_total_121 (by unfold aTO; rw [if_pos (by simp [c_4, c_15]), if_neg hor, hnx0, hnal0, if_pos (show hsT _ _ _ = true from c_45), if_neg (sw_out hw9 (by decide) (by decide)), if_neg (sw_out hw9 (by decide) (by decide)), if_neg (sw_out hw9 (by decide) (by decide))]) (by rw [if_pos (by simp [c_4, c_15, c_21, h99])]; rfl)
          · refine zj_bipush (pc := 48) (v := (-5)) C dX6_total_48 (by decide) ?_
            have h99 : ¬ 3 < w := Int32.not_lt.mpr c_26
            have hor : ¬ (w < 0 ∨ 3 < w) := fun h => h.elim c_21 h99
            exact zj_iretF C hr hlocks dX6_total_50 (by unfold aTO; rw [if_pos (by simp [c_4, c_15]), if_neg hor, hnx0, hnal0, if_neg (by show ¬ hsT _ _ _ = true; unfold hsT; rw [c_45]; simp)]) (by rw [if_pos (by simp [c_4, c_15, c_21, h99])]; rfl)
        · refine zj_bipush (pc := 29) (v := (-2)) C dX6_total_29 (by decide) ?_
          have h99 : 3 < w := Int32.not_le.mp c_26
          have hw : ¬ (!(decide (w < 0)) && !(decide (3 < w))) = true := by simp [h99]
          exact zj_iretF C hr hlocks dX6_total_31 (by unfold aTO; rw [if_pos (by simp [c_4, c_15]), if_pos (Or.inr h99)]) (by rw [if_neg (fun h => hw (by simp only [Bool.and_eq_true] at h ⊢; exact h.2))]; rfl)
    · refine zj_iconst (pc := 18) (v := (-1)) C dX6_total_18 (by decide) ?_
      exact zj_iretF C hr hlocks dX6_total_19 (by unfold aTO; rw [if_neg (by simp [c_4, c_15])]) (by rw [if_neg (by simp [c_4, c_15])]; rfl)
theorem sw_o9 {w : Int32} (h : w.toInt < 0 ∨ 9 < w.toInt) (h2 : w = 3 ∨ w = 4 ∨ w = 5 ∨ w = 6 ∨ w = 7) : False := by rcases h2 with e | e | e | e | e <;> exact sw_out h (by subst e; decide) (by subst e; decide) e
def aCT (g : Nat → Nat) (W : TC) (hn tn : Nat) (w : Int32) : Int32 := if w = 0 then nI (kL g) else if w = 1 then nI (cntB (told g) (kL g)) else if w = 2 then nI (kA g) else if w = 3 then nI (cntB (fun x => !(gdN W.2.1 x == 0)) 14) else if w = 4 then nI (cpN g W 4) else if w = 5 then nI (cpN g W 5) else if w = 6 then nI (cpN g W 6) else if w = 7 then nI (cpN g W 7) else if w = 8 then nI hn else if w = 9 then nI tn else -2
set_option maxRecDepth 100000 in
set_option maxHeartbeats 4000000 in
theorem m_X6_count {l : Launch} {G : GG} {ad : Nat → Nat → Nat} {q : Nat → Nat → Nat} {P Pd Ps : PC} {kp : Bool} {HP : Nat → PC} {hn : Nat} {t : Nat → Nat} {tn : Nat} {T : T7} {W1 W2 : TC} {st : Bool} {g : Nat → Nat} {w : Int32} (hP : PR g P) (hv : Vg g) (hW1 : TBT W1) : zX l G yX6_count cX6_count 2 (some .int) 7 163 0 0 [.ref (ad 0 0), .int w] (cls G ad q P Pd Ps kp HP hn t tn T W1 W2 st) (zF (some (.int (aCT g (wK g st W1) hn tn w))) (if (decide (w = 3) || (decide (w = 4) || (decide (w = 5) || (decide (w = 6) || decide (w = 7))))) then cls G ad q P Pd Ps kp HP hn t tn T (wK g st W1) W2 false else cls G ad q P Pd Ps kp HP hn t tn T W1 W2 st)) := by
  refine zj_startF RX6 (by decide +kernel) rfl rfl rfl (bs := [[((ad 0 0), .inr (6, [.ref (ad 1 0), .ref (ad 2 0), .ref (ad 3 0), .int (bI kp), .ref (ad 4 0), .ref (ad 5 0), .ref (ad 6 0), .ref (ad 7 0), .int (bI st)]))], plan G (ad 1) P, plan G (ad 2) Pd, plan G (ad 3) Ps, hist G (ad 4) q HP hn, text G (ad 5 0) (ad 5 1) t tn T, totT G (ad 6) W1, totT G (ad 7) W2]) rfl (lo := [some (.ref (ad 0 0)), some (.int w)]) rfl ?_
  intro p0 e0 s0 m0 args0 below0 meth0 c0 A0 C hr hlocks
  refine zj_iload_n (pc := 0) C dX6_count_0 rfl ?_
  rcases sw_9 w with hw9 | hw9 | hw9 | hw9 | hw9 | hw9 | hw9 | hw9 | hw9 | hw9 | hw9
  · refine zj_top (x' := 0) hw9 ?_
    refine zj_tableIn (pc := 1) 56 C dX6_count_1 (by decide) (by decide) rfl (by decide) ?_
    refine zj_aload_n (pc := 56) C dX6_count_56 rfl ?_
    refine gf_X6_0 (pc := 57) C dX6_count_57 0 rfl ?_
    refine zj_callP1 (pc := 60) C kv_X6_143 (m_X1_laneCount hP) dX6_count_60 1 rfl rfl rfl rfl rfl rfl rfl ⟨0, rfl⟩ rfl rfl ?_
    exact zj_iretF C hr hlocks dX6_count_63 (by unfold aCT; simp [hw9]) (by rw [if_neg (by rw [hw9]; decide)]; rfl)
  · refine zj_top (x' := 1) hw9 ?_
    refine zj_tableIn (pc := 1) 64 C dX6_count_1 (by decide) (by decide) rfl (by decide) ?_
    refine zj_aload_n (pc := 64) C dX6_count_64 rfl ?_
    refine gf_X6_0 (pc := 65) C dX6_count_65 0 rfl ?_
    refine zj_callP1 (pc := 68) C kv_X6_85 (m_X1_toldLanes hP hv) dX6_count_68 1 rfl rfl rfl rfl rfl rfl rfl ⟨0, rfl⟩ rfl rfl ?_
    exact zj_iretF C hr hlocks dX6_count_71 (by unfold aCT; simp [hw9]) (by rw [if_neg (by rw [hw9]; decide)]; rfl)
  · refine zj_top (x' := 2) hw9 ?_
    refine zj_tableIn (pc := 1) 72 C dX6_count_1 (by decide) (by decide) rfl (by decide) ?_
    refine zj_aload_n (pc := 72) C dX6_count_72 rfl ?_
    refine gf_X6_0 (pc := 73) C dX6_count_73 0 rfl ?_
    refine zj_callP1 (pc := 76) C kv_X6_212 (m_X1_alleyCount hP) dX6_count_76 1 rfl rfl rfl rfl rfl rfl rfl ⟨0, rfl⟩ rfl rfl ?_
    exact zj_iretF C hr hlocks dX6_count_79 (by unfold aCT; simp [hw9]) (by rw [if_neg (by rw [hw9]; decide)]; rfl)
  · refine zj_top (x' := 3) hw9 ?_
    refine zj_tableIn (pc := 1) 80 C dX6_count_1 (by decide) (by decide) rfl (by decide) ?_
    refine zj_aload_n (pc := 80) C dX6_count_80 rfl ?_
    refine zj_callA (pc := 81) C kv_X6_156 (m_X6_workOut hP hv hW1) dX6_count_81 [0, 1, 2, 3, 4, 5, 6, 7] [] rfl rfl rfl rfl rfl rfl rfl rfl ⟨0, rfl⟩ rfl rfl (fun v w1 hq => ?_)
    obtain ⟨rfl, rfl⟩ := hq
    refine zj_blk (bs' := [[((ad 0 0), .inr (6, [.ref (ad 1 0), .ref (ad 2 0), .ref (ad 3 0), .int (bI kp), .ref (ad 4 0), .ref (ad 5 0), .ref (ad 6 0), .ref (ad 7 0), .int (bI false)]))], plan G (ad 1) P, plan G (ad 2) Pd, plan G (ad 3) Ps, hist G (ad 4) q HP hn, text G (ad 5 0) (ad 5 1) t tn T, totT G (ad 6) (wK g st W1), totT G (ad 7) W2]) rfl ?_
    have hWK : TBT (wK g st W1) := wK_TBT hv hW1
    refine zj_aload_n (pc := 84) C dX6_count_84 rfl ?_
    refine gf_X6_6 (pc := 85) C dX6_count_85 0 rfl ?_
    refine zj_callP1 (pc := 88) C kv_X6_215 (m_X4_gateCount hWK.1) dX6_count_88 6 rfl rfl rfl rfl rfl rfl rfl ⟨0, rfl⟩ rfl rfl ?_
    exact zj_iretF C hr hlocks dX6_count_91 (by unfold aCT; simp [hw9]) (by rw [if_pos (by rw [hw9]; decide)]; rfl)
  · refine zj_top (x' := 4) hw9 ?_
    refine zj_tableIn (pc := 1) 92 C dX6_count_1 (by decide) (by decide) rfl (by decide) ?_
    refine zj_loc (lo' := [some (.ref (ad 0 0)), some (.int (nI 4))]) (by rw [hw9]; rfl) ?_
    refine zj_aload_n (pc := 92) C dX6_count_92 rfl ?_
    refine zj_callA (pc := 93) C kv_X6_156 (m_X6_workOut hP hv hW1) dX6_count_93 [0, 1, 2, 3, 4, 5, 6, 7] [] rfl rfl rfl rfl rfl rfl rfl rfl ⟨0, rfl⟩ rfl rfl (fun v w1 hq => ?_)
    obtain ⟨rfl, rfl⟩ := hq
    refine zj_blk (bs' := [[((ad 0 0), .inr (6, [.ref (ad 1 0), .ref (ad 2 0), .ref (ad 3 0), .int (bI kp), .ref (ad 4 0), .ref (ad 5 0), .ref (ad 6 0), .ref (ad 7 0), .int (bI false)]))], plan G (ad 1) P, plan G (ad 2) Pd, plan G (ad 3) Ps, hist G (ad 4) q HP hn, text G (ad 5 0) (ad 5 1) t tn T, totT G (ad 6) (wK g st W1), totT G (ad 7) W2]) rfl ?_
    have hWK : TBT (wK g st W1) := wK_TBT hv hW1
    refine zj_aload_n (pc := 96) C dX6_count_96 rfl ?_
    refine zj_iload_n (pc := 97) C dX6_count_97 rfl ?_
    refine zj_callPA (pc := 98) C kv_X6_218 (m_X6_countPairs (cc := 4) hP hv hWK (by decide) (by decide)) dX6_count_98 [0, 1, 2, 3, 4, 5, 6, 7] [] rfl rfl rfl rfl rfl rfl rfl rfl ⟨0, rfl⟩ rfl rfl ?_
    exact zj_iretF C hr hlocks dX6_count_101 (by unfold aCT; simp [hw9]) (by rw [if_pos (by rw [hw9]; decide)]; rfl)
  · refine zj_top (x' := 5) hw9 ?_
    refine zj_tableIn (pc := 1) 92 C dX6_count_1 (by decide) (by decide) rfl (by decide) ?_
    refine zj_loc (lo' := [some (.ref (ad 0 0)), some (.int (nI 5))]) (by rw [hw9]; rfl) ?_
    refine zj_aload_n (pc := 92) C dX6_count_92 rfl ?_
    refine zj_callA (pc := 93) C kv_X6_156 (m_X6_workOut hP hv hW1) dX6_count_93 [0, 1, 2, 3, 4, 5, 6, 7] [] rfl rfl rfl rfl rfl rfl rfl rfl ⟨0, rfl⟩ rfl rfl (fun v w1 hq => ?_)
    obtain ⟨rfl, rfl⟩ := hq
    refine zj_blk (bs' := [[((ad 0 0), .inr (6, [.ref (ad 1 0), .ref (ad 2 0), .ref (ad 3 0), .int (bI kp), .ref (ad 4 0), .ref (ad 5 0), .ref (ad 6 0), .ref (ad 7 0), .int (bI false)]))], plan G (ad 1) P, plan G (ad 2) Pd, plan G (ad 3) Ps, hist G (ad 4) q HP hn, text G (ad 5 0) (ad 5 1) t tn T, totT G (ad 6) (wK g st W1), totT G (ad 7) W2]) rfl ?_
    have hWK : TBT (wK g st W1) := wK_TBT hv hW1
    refine zj_aload_n (pc := 96) C dX6_count_96 rfl ?_
    refine zj_iload_n (pc := 97) C dX6_count_97 rfl ?_
    refine zj_callPA (pc := 98) C kv_X6_218 (m_X6_countPairs (cc := 5) hP hv hWK (by decide) (by decide)) dX6_count_98 [0, 1, 2, 3, 4, 5, 6, 7] [] rfl rfl rfl rfl rfl rfl rfl rfl ⟨0, rfl⟩ rfl rfl ?_
    exact zj_iretF C hr hlocks dX6_count_101 (by unfold aCT; simp [hw9]) (by rw [if_pos (by rw [hw9]; decide)]; rfl)
  · refine zj_top (x' := 6) hw9 ?_
    refine zj_tableIn (pc := 1) 92 C dX6_count_1 (by decide) (by decide) rfl (by decide) ?_
    refine zj_loc (lo' := [some (.ref (ad 0 0)), some (.int (nI 6))]) (by rw [hw9]; rfl) ?_
    refine zj_aload_n (pc := 92) C dX6_count_92 rfl ?_
    refine zj_callA (pc := 93) C kv_X6_156 (m_X6_workOut hP hv hW1) dX6_count_93 [0, 1, 2, 3, 4, 5, 6, 7] [] rfl rfl rfl rfl rfl rfl rfl rfl ⟨0, rfl⟩ rfl rfl (fun v w1 hq => ?_)
    obtain ⟨rfl, rfl⟩ := hq
    refine zj_blk (bs' := [[((ad 0 0), .inr (6, [.ref (ad 1 0), .ref (ad 2 0), .ref (ad 3 0), .int (bI kp), .ref (ad 4 0), .ref (ad 5 0), .ref (ad 6 0), .ref (ad 7 0), .int (bI false)]))], plan G (ad 1) P, plan G (ad 2) Pd, plan G (ad 3) Ps, hist G (ad 4) q HP hn, text G (ad 5 0) (ad 5 1) t tn T, totT G (ad 6) (wK g st W1), totT G (ad 7) W2]) rfl ?_
    have hWK : TBT (wK g st W1) := wK_TBT hv hW1
    refine zj_aload_n (pc := 96) C dX6_count_96 rfl ?_
    refine zj_iload_n (pc := 97) C dX6_count_97 rfl ?_
    refine zj_callPA (pc := 98) C kv_X6_218 (m_X6_countPairs (cc := 6) hP hv hWK (by decide) (by decide)) dX6_count_98 [0, 1, 2, 3, 4, 5, 6, 7] [] rfl rfl rfl rfl rfl rfl rfl rfl ⟨0, rfl⟩ rfl rfl ?_
    exact zj_iretF C hr hlocks dX6_count_101 (by unfold aCT; simp [hw9]) (by rw [if_pos (by rw [hw9]; decide)]; rfl)
  · refine zj_top (x' := 7) hw9 ?_
    refine zj_tableIn (pc := 1) 92 C dX6_count_1 (by decide) (by decide) rfl (by decide) ?_
    refine zj_loc (lo' := [some (.ref (ad 0 0)), some (.int (nI 7))]) (by rw [hw9]; rfl) ?_
    refine zj_aload_n (pc := 92) C dX6_count_92 rfl ?_
    refine zj_callA (pc := 93) C kv_X6_156 (m_X6_workOut hP hv hW1) dX6_count_93 [0, 1, 2, 3, 4, 5, 6, 7] [] rfl rfl rfl rfl rfl rfl rfl rfl ⟨0, rfl⟩ rfl rfl (fun v w1 hq => ?_)
    obtain ⟨rfl, rfl⟩ := hq
    refine zj_blk (bs' := [[((ad 0 0), .inr (6, [.ref (ad 1 0), .ref (ad 2 0), .ref (ad 3 0), .int (bI kp), .ref (ad 4 0), .ref (ad 5 0), .ref (ad 6 0), .ref (ad 7 0), .int (bI false)]))], plan G (ad 1) P, plan G (ad 2) Pd, plan G (ad 3) Ps, hist G (ad 4) q HP hn, text G (ad 5 0) (ad 5 1) t tn T, totT G (ad 6) (wK g st W1), totT G (ad 7) W2]) rfl ?_
    have hWK : TBT (wK g st W1) := wK_TBT hv hW1
    refine zj_aload_n (pc := 96) C dX6_count_96 rfl ?_
    refine zj_iload_n (pc := 97) C dX6_count_97 rfl ?_
    refine zj_callPA (pc := 98) C kv_X6_218 (m_X6_countPairs (cc := 7) hP hv hWK (by decide) (by decide)) dX6_count_98 [0, 1, 2, 3, 4, 5, 6, 7] [] rfl rfl rfl rfl rfl rfl rfl rfl ⟨0, rfl⟩ rfl rfl ?_
    exact zj_iretF C hr hlocks dX6_count_101 (by unfold aCT; simp [hw9]) (by rw [if_pos (by rw [hw9]; decide)]; rfl)
  · refine zj_top (x' := 8) hw9 ?_
    refine zj_tableIn (pc := 1) 102 C dX6_count_1 (by decide) (by decide) rfl (by decide) ?_
    refine zj_aload_n (pc := 102) C dX6_count_102 rfl ?_
    refine gf_X6_4 (pc := 103) C dX6_count_103 0 rfl ?_
    refine zj_callP1 (pc := 106) C kv_X6_142 (m_X0_size) dX6_count_106 4 rfl rfl rfl rfl rfl rfl rfl ⟨0, rfl⟩ rfl rfl ?_
    exact zj_iretF C hr hlocks dX6_count_109 (by unfold aCT; simp [hw9]) (by rw [if_neg (by rw [hw9]; decide)]; rfl)
  · refine zj_top (x' := 9) hw9 ?_
    refine zj_tableIn (pc := 1) 110 C dX6_count_1 (by decide) (by decide) rfl (by decide) ?_
    refine zj_aload_n (pc := 110) C dX6_count_110 rfl ?_
    refine gf_X6_5 (pc := 111) C dX6_count_111 0 rfl ?_
    refine zj_callP1 (pc := 114) C kv_X6_132 (m_X3_size) dX6_count_114 5 rfl rfl rfl rfl rfl rfl rfl ⟨0, rfl⟩ rfl rfl ?_
    exact zj_iretF C hr hlocks dX6_count_117 (by unfold aCT; simp [hw9]) (by rw [if_neg (by rw [hw9]; decide)]; rfl)
  · refine zj_tableOut (pc := 1) 118 C dX6_count_1 hw9 (by decide) ?_
    refine zj_bipush (pc := 118) (v := (-2)) C dX6_count_118 (by decide) ?_
    exact zj_iretF C hr hlocks dX6_count_120 (by unfold aCT; rw [if_neg (sw_out hw9 (by decide) (by decide)), if_neg (sw_out hw9 (by decide) (by decide)), if_neg (sw_out hw9 (by decide) (by decide)), if_neg (sw_out hw9 (by decide) (by decide)), if_neg (sw_out hw9 (by decide) (by decide)), if_neg (sw_out hw9 (by decide) (by decide)), if_neg (sw_out hw9 (by decide) (by decide)), if_neg (sw_out hw9 (by decide) (by decide)), if_neg (sw_out hw9 (by decide) (by decide)), if_neg (sw_out hw9 (by decide) (by decide))]) (by rw [if_neg (fun h => sw_o9 hw9 (by simpa using h))]; rfl)
