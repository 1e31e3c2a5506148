set_option maxRecDepth 100000 in
set_option maxHeartbeats 4000000 in
theorem m_X7_bestGate {l : Launch} {G : GG} {m : Nat → Nat} {g ga gh : Nat → Nat} {kn : Nat} {gk : Nat → Nat} {kp : Bool} {tx : Nat → Nat} {ln : Nat} {iz wy wa tt rr we : Nat → Nat} {sp : Nat} {wr : Bool} {er : Int32} {d w : Int32} (hv : Vg g) : zX l G yX7_bestGate cX7_bestGate 10 (some .int) 7 167 0 0 [.ref (m 0), .int (d), .int (w)] (mB G m g ga gh kn gk kp tx ln iz wy wa tt rr we sp wr er).flatten (zB (some (.int (rBG g d w))) G m g ga gh kn gk kp tx ln sp wr er) := by
  refine zj_startF RX7 (by decide +kernel) rfl rfl rfl (bs := (mB G m g ga gh kn gk kp tx ln iz wy wa tt rr we sp wr er)) rfl (lo := [some (.ref (m 0)), some (.int (d)), some (.int (w)), none, none, none, none, none, none, none]) rfl ?_
  intro p0 e0 s0 m0 args0 below0 meth0 c0 A0 C hr hlocks
  have hvk := Vk_of hv
  have hk24 := hv.1
  refine zj_iload_n (pc := 0) C dX7_bestGate_0 rfl ?_
  refine zj_iconst (pc := 1) (v := nI 1) C dX7_bestGate_1 (by decide) ?_
  refine zj_iconst (pc := 2) (v := nI 3) C dX7_bestGate_2 (by decide) ?_
  refine zj_callSF (pc := 3) C kv_X7_43 (m_X7_in) dX7_bestGate_3 rfl rfl rfl rfl rfl rfl ?_
  refine zj_ifb_ne (pc := 6) 11 C dX7_bestGate_6 (by decide) (fun c_6 => ?_) (fun c_6 => ?_)
  · have hd9 : ¬ d < 1 ∧ ¬ 3 < d := by have h2 := c_6; unfold inB at h2; simp at h2; exact ⟨Int32.not_lt.mpr h2.1, Int32.not_lt.mpr h2.2⟩
    have hin : inB d 1 3 = true := c_6
    obtain ⟨d0, hd3, rfl⟩ := nI_of2 (x := d) (M := 3) (n := 3) rfl (fun h => hd9.1 (Int32.lt_trans h (by decide))) (Int32.not_lt.mp hd9.2)
    have ed : (nI d0).toNatClampNeg = d0 := nI_clamp (by omega)
    refine zj_iload_n (pc := 11) C dX7_bestGate_11 rfl ?_
    refine zj_iconst (pc := 12) (v := nI 0) C dX7_bestGate_12 (by decide) ?_
    refine zj_iconst (pc := 13) (v := nI 2) C dX7_bestGate_13 (by decide) ?_
    refine zj_callSF (pc := 14) C kv_X7_43 (m_X7_in) dX7_bestGate_14 rfl rfl rfl rfl rfl rfl ?_
    refine zj_ifb_ne (pc := 17) 23 C dX7_bestGate_17 (by decide) (fun c_17 => ?_) (fun c_17 => ?_)
    · have hr2 : ¬ w < 0 ∧ ¬ 2 < w := by have h2 := c_17; unfold inB at h2; simp at h2; exact ⟨Int32.not_lt.mpr h2.1, Int32.not_lt.mpr h2.2⟩
      have hnor : ¬ (w < 0 ∨ 2 < w) := fun h => h.elim hr2.1 hr2.2
      have hr1 := hr2.1
      have hr3 := hr2.2
      obtain ⟨w0, hw0, rfl⟩ := nI_of2 (x := w) (M := 2) (n := 2) rfl hr1 (Int32.not_lt.mp hr3)
      have ew : (nI w0).toNatClampNeg = w0 := nI_clamp (by omega)
      have ha9 : rBG g (nI d0) (nI w0) = (match (rbg g d0 196).1 with | none => -5 | some k => if nI w0 = 0 then nI (k / 14) else if nI w0 = 1 then nI (k % 14) else nI (rbg g d0 196).2) := by unfold rBG; rw [if_pos hin, if_neg hnor, ed]; rfl
      refine zj_bipush (pc := 23) (v := (-5)) C dX7_bestGate_23 (by decide) ?_
      refine zj_istore_n (pc := 25) C dX7_bestGate_25 (Nat.le_of_ble_eq_true rfl) ?_
      refine zj_iconst (pc := 26) (v := nI 0) C dX7_bestGate_26 (by decide) ?_
      refine zj_istore (pc := 27) C dX7_bestGate_27 (Nat.le_of_ble_eq_true rfl) ?_
      refine zj_iconst (pc := 29) (v := nI 0) C dX7_bestGate_29 (by decide) ?_
      refine zj_istore (pc := 30) C dX7_bestGate_30 (Nat.le_of_ble_eq_true rfl) ?_
      refine zj_keep [true, true, true, true, true, true, false, false, false, false] ?_
      refine zq_loop3 (fun (k : Nat) (gq : Nat → Nat) (S : (Nat → Nat) × (Nat → Nat) × (Nat → Nat) × (Nat → Nat) × (Nat → Nat)) => k ≤ 196 ∧ AG g gq) (fun (k : Nat) (gq : Nat → Nat) (S : (Nat → Nat) × (Nat → Nat) × (Nat → Nat) × (Nat → Nat) × (Nat → Nat)) => 196 - k) (fun (k : Nat) (gq : Nat → Nat) (S : (Nat → Nat) × (Nat → Nat) × (Nat → Nat) × (Nat → Nat) × (Nat → Nat)) => (mB G m gq ga gh kn gk kp tx ln S.1 S.2.1 wa S.2.2.1 S.2.2.2.1 S.2.2.2.2 sp wr er)) (fun (k : Nat) (gq : Nat → Nat) (S : (Nat → Nat) × (Nat → Nat) × (Nat → Nat) × (Nat → Nat) × (Nat → Nat)) => [some (.ref (m 0)), some (.int (nI (d0))), some (.int (nI (w0))), some (.int (optI (rbg g d0 k).1)), some (.int (nI ((rbg g d0 k).2))), some (.int (nI (k))), none, none, none, none]) ?_ 0 g (iz, wy, tt, rr, we) ⟨Nat.zero_le _, AG_rf⟩
      intro k gq S hI ih_32
      obtain ⟨hk, hAG⟩ := hI
      have hb := (rbg_le hvk d0 k).1
      have hb2 := ibN_le hvk d0 k
      refine zj_iload (pc := 32) C dX7_bestGate_32 rfl ?_
      refine zj_sipush (pc := 34) (v := nI 196) C dX7_bestGate_34 (by decide) ?_
      refine zq_icmp_ge (pc := 37) 151 C dX7_bestGate_37 (by decide) (by omega) (by omega) (fun c_37 => ?_) (fun c_37 => ?_)
      · have hk9 : k = 196 := by omega
        subst hk9
        refine zj_iload_n (pc := 151) C dX7_bestGate_151 rfl ?_
        refine zj_bipush (pc := 152) (v := (-5)) C dX7_bestGate_152 (by decide) ?_
        refine zj_icmp_ne (pc := 154) 162 C dX7_bestGate_154 (by decide) (fun c_154 => ?_) (fun c_154 => ?_)
        · obtain ⟨j9, hj9⟩ : ∃ j9, (rbg g d0 196).1 = some j9 := by cases h : (rbg g d0 196).1 with | none => rw [h] at c_154; exact absurd rfl c_154 | some j9 => exact ⟨j9, rfl⟩
          have hj196 := (rbg_le hvk d0 196).2 j9 hj9
          refine zj_loc (lo' := [some (.ref (m 0)), some (.int (nI d0)), some (.int (nI w0)), some (.int (nI j9)), some (.int (nI (rbg g d0 196).2)), some (.int (nI 196)), none, none, none, none]) (by rw [hj9]; rfl) ?_
          have ho : rBG g (nI d0) (nI w0) = if nI w0 = 0 then nI (j9 / 14) else if nI w0 = 1 then nI (j9 % 14) else nI (rbg g d0 196).2 := by rw [ha9, hj9]
          refine zj_iload_n (pc := 162) C dX7_bestGate_162 rfl ?_
          refine zq_if_ne (pc := 163) 173 C dX7_bestGate_163 (by decide) (by omega) (fun c_163 => ?_) (fun c_163 => ?_)
          · refine zj_iload_n (pc := 173) C dX7_bestGate_173 rfl ?_
            refine zj_iconst (pc := 174) (v := nI 1) C dX7_bestGate_174 (by decide) ?_
            refine zq_icmp_ne (pc := 175) 185 C dX7_bestGate_175 (by decide) (by omega) (by omega) (fun c_175 => ?_) (fun c_175 => ?_)
            · refine zj_iload (pc := 185) C dX7_bestGate_185 rfl ?_
              refine zj_iret C hr hlocks dX7_bestGate_187 ?_
              exact zB_mk hAG (by rw [ho, if_neg (fun h => by have := (nI_eq (a := w0) (b := 0) (by omega) (by decide)).mp h; omega), if_neg (fun h => by have := (nI_eq (a := w0) (b := 1) (by omega) (by decide)).mp h; omega)])
            · refine zj_iload_n (pc := 178) C dX7_bestGate_178 rfl ?_
              refine zj_bipush (pc := 179) (v := nI 14) C dX7_bestGate_179 (by decide) ?_
              refine zq_irem (pc := 181) C dX7_bestGate_181 (by omega) (by decide) (by decide) ?_
              refine zj_goto (pc := 182) (tgt := 187) C dX7_bestGate_182 (by decide) ?_
              refine zj_iret C hr hlocks dX7_bestGate_187 ?_
              exact zB_mk hAG (by rw [ho, if_neg (fun h => by have := (nI_eq (a := w0) (b := 0) (by omega) (by decide)).mp h; omega), if_pos (show nI w0 = 1 by rw [show w0 = 1 by omega]; rfl)])
          · refine zj_iload_n (pc := 166) C dX7_bestGate_166 rfl ?_
            refine zj_bipush (pc := 167) (v := nI 14) C dX7_bestGate_167 (by decide) ?_
            refine zq_idiv (pc := 169) C dX7_bestGate_169 (by omega) (by decide) (by decide) ?_
            refine zj_goto (pc := 170) (tgt := 187) C dX7_bestGate_170 (by decide) ?_
            refine zj_iret C hr hlocks dX7_bestGate_187 ?_
            exact zB_mk hAG (by rw [ho, if_pos (show nI w0 = 0 by rw [show w0 = 0 by omega]; rfl)])
        · refine zj_bipush (pc := 157) (v := (-5)) C dX7_bestGate_157 (by decide) ?_
          refine zj_goto (pc := 159) (tgt := 187) C dX7_bestGate_159 (by decide) ?_
          refine zj_iret C hr hlocks dX7_bestGate_187 ?_
          have h7 : (rbg g d0 196).1 = none := by cases h : (rbg g d0 196).1 with | none => rfl | some j9 => rw [h] at c_154; exact absurd c_154 (nI_ne5 (by have := (rbg_le hvk d0 196).2 j9 h; omega))
          exact zB_mk hAG (by rw [ha9, h7])
      · have hvq := Vk_of (AG_V hAG hv)
        have ei9 := AG_inn hAG hvk
        refine zj_iload (pc := 40) C dX7_bestGate_40 rfl ?_
        refine zj_bipush (pc := 42) (v := nI 14) C dX7_bestGate_42 (by decide) ?_
        refine zq_idiv (pc := 44) C dX7_bestGate_44 (by omega) (by decide) (by decide) ?_
        refine zj_istore (pc := 45) C dX7_bestGate_45 (Nat.le_of_ble_eq_true rfl) ?_
        refine zj_iload (pc := 47) C dX7_bestGate_47 rfl ?_
        refine zj_bipush (pc := 49) (v := nI 14) C dX7_bestGate_49 (by decide) ?_
        refine zq_irem (pc := 51) C dX7_bestGate_51 (by omega) (by decide) (by decide) ?_
        refine zj_istore (pc := 52) C dX7_bestGate_52 (Nat.le_of_ble_eq_true rfl) ?_
        refine zj_aload_n (pc := 54) C dX7_bestGate_54 rfl ?_
        refine zq_callFn (pc := 55) (bs' := (mB G m gq ga gh kn gk kp tx ln (izV gq) S.2.1 wa S.2.2.1 S.2.2.2.1 S.2.2.2.2 sp wr er)) C kv_X7_96 (m_X7_looks hvq) dX7_bestGate_55 rfl rfl rfl rfl rfl rfl ⟨0, rfl⟩ rfl rfl ?_
        refine zq_mrg 93 [] (bI (myB g d0 (k / 14) (k % 14))) ?_ (fun kk => ?_)
        · refine zj_istore (pc := 93) C dX7_bestGate_93 (Nat.le_of_ble_eq_true rfl) ?_
          refine zj_iload (pc := 95) C dX7_bestGate_95 rfl ?_
          refine zj_ifb_eq (pc := 97) 112 C dX7_bestGate_97 (by decide) (fun c_97 => ?_) (fun c_97 => ?_)
          · refine zj_iconst (pc := 112) (v := nI 0) C dX7_bestGate_112 (by decide) ?_
            refine zj_top (x' := nI (ibN g d0 k)) (congrArg nI (if_neg (by rw [c_97]; decide) : ibN g d0 k = 0).symm) ?_
            refine zj_istore (pc := 113) C dX7_bestGate_113 (Nat.le_of_ble_eq_true rfl) ?_
            refine zq_mrg 128 [] (optI (rbg g d0 (k + 1)).1) ?_ (fun kk => ?_)
            · refine zj_istore_n (pc := 128) C dX7_bestGate_128 (Nat.le_of_ble_eq_true rfl) ?_
              refine zq_mrg 143 [] (nI ((rbg g d0 (k + 1)).2)) ?_ (fun kk => ?_)
              · refine zj_istore (pc := 143) C dX7_bestGate_143 (Nat.le_of_ble_eq_true rfl) ?_
                refine zj_iinc (pc := 145) (v := nI (k + 1)) C dX7_bestGate_145 rfl (nI_1 _) ?_
                refine zj_goto (pc := 148) (tgt := 32) C dX7_bestGate_148 (by decide) ?_
                refine zj_keep [true, true, true, true, true, true, false, false, false, false] ?_
                exact ih_32 (k + 1) gq (izV gq, S.2.1, S.2.2.1, S.2.2.2.1, S.2.2.2.2) ⟨by omega, hAG⟩ (by omega)
              · refine zj_iload (pc := 129) C dX7_bestGate_129 rfl ?_
                refine zj_iload (pc := 131) C dX7_bestGate_131 rfl ?_
                refine zq_icmp_le (pc := 133) 141 C dX7_bestGate_133 (by decide) (by omega) (by omega) (fun c_133 => ?_) (fun c_133 => ?_)
                · refine zj_iload (pc := 141) C dX7_bestGate_141 rfl ?_
                  exact zj_top (x' := nI ((rbg g d0 (k + 1)).2)) (congrArg nI (show _ = (if (rbg g d0 k).2 < ibN g d0 k then ibN g d0 k else (rbg g d0 k).2) by rw [if_neg (by omega)])) kk
                · refine zj_iload (pc := 136) C dX7_bestGate_136 rfl ?_
                  refine zj_goto (pc := 138) (tgt := 143) C dX7_bestGate_138 (by decide) ?_
                  exact zj_top (x' := nI ((rbg g d0 (k + 1)).2)) (congrArg nI (show _ = (if (rbg g d0 k).2 < ibN g d0 k then ibN g d0 k else (rbg g d0 k).2) by rw [if_pos c_133])) kk
            · refine zj_iload (pc := 115) C dX7_bestGate_115 rfl ?_
              refine zj_iload (pc := 117) C dX7_bestGate_117 rfl ?_
              refine zq_icmp_le (pc := 119) 127 C dX7_bestGate_119 (by decide) (by omega) (by omega) (fun c_119 => ?_) (fun c_119 => ?_)
              · refine zj_iload_n (pc := 127) C dX7_bestGate_127 rfl ?_
                exact zj_top (x' := optI (rbg g d0 (k + 1)).1) (show _ = optI (if (rbg g d0 k).2 < ibN g d0 k then some k else (rbg g d0 k).1) by rw [if_neg (by omega)]) kk
              · refine zj_iload (pc := 122) C dX7_bestGate_122 rfl ?_
                refine zj_goto (pc := 124) (tgt := 128) C dX7_bestGate_124 (by decide) ?_
                exact zj_top (x' := optI (rbg g d0 (k + 1)).1) (show _ = optI (if (rbg g d0 k).2 < ibN g d0 k then some k else (rbg g d0 k).1) by rw [if_pos c_119]; rfl) kk
          · have hxy : k / 14 ≠ k % 14 := by intro h; unfold myB at c_97; rw [h] at c_97; cases q : inn g d0 (k % 14) <;> rw [q] at c_97 <;> simp at c_97
            refine zj_aload_n (pc := 100) C dX7_bestGate_100 rfl ?_
            refine zj_iload (pc := 101) C dX7_bestGate_101 rfl ?_
            refine zj_iload (pc := 103) C dX7_bestGate_103 rfl ?_
            refine zj_iload_n (pc := 105) C dX7_bestGate_105 rfl ?_
            refine zq_callF (pc := 106) (bs' := (mB G m (updN (gAdd gq (k / 14) (k % 14) 1 d0) 14 (kL gq)) ga gh kn gk kp tx ln (izV (gAdd gq (k / 14) (k % 14) 1 d0)) (wyV (gAdd gq (k / 14) (k % 14) 1 d0)) wa (ttV (gAdd gq (k / 14) (k % 14) 1 d0) (ttV gq S.2.2.1)) (rrV (gAdd gq (k / 14) (k % 14) 1 d0) (rrV gq S.2.2.2.1)) (ttV gq S.2.2.1) sp wr er)) C kv_X7_243 (m_X7_gainedBy (AG_V hAG hv) (by omega) (by omega) hxy (by omega)) dX7_bestGate_106 rfl rfl rfl rfl rfl rfl ⟨0, rfl⟩ rfl rfl ?_
            refine zj_goto (pc := 109) (tgt := 113) C dX7_bestGate_109 (by decide) ?_
            refine zj_top (x' := nI (ibN g d0 k)) (congrArg nI (by unfold ibN; rw [if_pos c_97]; exact AG_gn hAG hv (by omega) (by omega) hxy (by omega))) ?_
            refine zj_istore (pc := 113) C dX7_bestGate_113 (Nat.le_of_ble_eq_true rfl) ?_
            refine zq_mrg 128 [] (optI (rbg g d0 (k + 1)).1) ?_ (fun kk => ?_)
            · refine zj_istore_n (pc := 128) C dX7_bestGate_128 (Nat.le_of_ble_eq_true rfl) ?_
              refine zq_mrg 143 [] (nI ((rbg g d0 (k + 1)).2)) ?_ (fun kk => ?_)
              · refine zj_istore (pc := 143) C dX7_bestGate_143 (Nat.le_of_ble_eq_true rfl) ?_
                refine zj_iinc (pc := 145) (v := nI (k + 1)) C dX7_bestGate_145 rfl (nI_1 _) ?_
                refine zj_goto (pc := 148) (tgt := 32) C dX7_bestGate_148 (by decide) ?_
                refine zj_keep [true, true, true, true, true, true, false, false, false, false] ?_
                exact ih_32 (k + 1) (updN (gAdd gq (k / 14) (k % 14) 1 d0) 14 (kL gq)) (izV (gAdd gq (k / 14) (k % 14) 1 d0), wyV (gAdd gq (k / 14) (k % 14) 1 d0), ttV (gAdd gq (k / 14) (k % 14) 1 d0) (ttV gq S.2.2.1), rrV (gAdd gq (k / 14) (k % 14) 1 d0) (rrV gq S.2.2.2.1), ttV gq S.2.2.1) ⟨by omega, (by have h8 := AG_jk (x := k / 14) (y := k % 14) (d := d0) hAG hk24; rw [← (AG_k hAG (by omega)).1] at h8; exact h8)⟩ (by omega)
              · refine zj_iload (pc := 129) C dX7_bestGate_129 rfl ?_
                refine zj_iload (pc := 131) C dX7_bestGate_131 rfl ?_
                refine zq_icmp_le (pc := 133) 141 C dX7_bestGate_133 (by decide) (by omega) (by omega) (fun c_133 => ?_) (fun c_133 => ?_)
                · refine zj_iload (pc := 141) C dX7_bestGate_141 rfl ?_
                  exact zj_top (x' := nI ((rbg g d0 (k + 1)).2)) (congrArg nI (show _ = (if (rbg g d0 k).2 < ibN g d0 k then ibN g d0 k else (rbg g d0 k).2) by rw [if_neg (by omega)])) kk
                · refine zj_iload (pc := 136) C dX7_bestGate_136 rfl ?_
                  refine zj_goto (pc := 138) (tgt := 143) C dX7_bestGate_138 (by decide) ?_
                  exact zj_top (x' := nI ((rbg g d0 (k + 1)).2)) (congrArg nI (show _ = (if (rbg g d0 k).2 < ibN g d0 k then ibN g d0 k else (rbg g d0 k).2) by rw [if_pos c_133])) kk
            · refine zj_iload (pc := 115) C dX7_bestGate_115 rfl ?_
              refine zj_iload (pc := 117) C dX7_bestGate_117 rfl ?_
              refine zq_icmp_le (pc := 119) 127 C dX7_bestGate_119 (by decide) (by omega) (by omega) (fun c_119 => ?_) (fun c_119 => ?_)
              · refine zj_iload_n (pc := 127) C dX7_bestGate_127 rfl ?_
                exact zj_top (x' := optI (rbg g d0 (k + 1)).1) (show _ = optI (if (rbg g d0 k).2 < ibN g d0 k then some k else (rbg g d0 k).1) by rw [if_neg (by omega)]) kk
              · refine zj_iload (pc := 122) C dX7_bestGate_122 rfl ?_
                refine zj_goto (pc := 124) (tgt := 128) C dX7_bestGate_124 (by decide) ?_
                exact zj_top (x' := optI (rbg g d0 (k + 1)).1) (show _ = optI (if (rbg g d0 k).2 < ibN g d0 k then some k else (rbg g d0 k).1) by rw [if_pos c_119]; rfl) kk
        · refine zj_aload_n (pc := 58) C dX7_bestGate_58 rfl ?_
          refine zj_iload (pc := 59) C dX7_bestGate_59 rfl ?_
          refine zj_iconst (pc := 61) (v := nI 0) C dX7_bestGate_61 (by decide) ?_
          refine zq_callP (pc := 62) C kv_X7_63 (m_X7_isIn (by omega) (by omega)) dX7_bestGate_62 rfl rfl rfl rfl rfl rfl ⟨0, rfl⟩ rfl rfl ?_
          refine zj_ifb_eq (pc := 65) 92 C dX7_bestGate_65 (by decide) (fun c_65 => ?_) (fun c_65 => ?_)
          · refine zj_iconst (pc := 92) (v := nI 0) C dX7_bestGate_92 (by decide) ?_
            exact zj_top (x' := bI (myB g d0 (k / 14) (k % 14))) (zq_f (by unfold myB; rw [← ei9, c_65]; rfl)) kk
          · refine zj_aload_n (pc := 68) C dX7_bestGate_68 rfl ?_
            refine zj_iload (pc := 69) C dX7_bestGate_69 rfl ?_
            refine zj_iload_n (pc := 71) C dX7_bestGate_71 rfl ?_
            refine zq_callP (pc := 72) C kv_X7_63 (m_X7_isIn (by omega) (by omega)) dX7_bestGate_72 rfl rfl rfl rfl rfl rfl ⟨0, rfl⟩ rfl rfl ?_
            refine zj_ifb_ne (pc := 75) 92 C dX7_bestGate_75 (by decide) (fun c_75 => ?_) (fun c_75 => ?_)
            · refine zj_iconst (pc := 92) (v := nI 0) C dX7_bestGate_92 (by decide) ?_
              exact zj_top (x' := bI (myB g d0 (k / 14) (k % 14))) (zq_f (by unfold myB; rw [← ei9, c_65, c_75]; rfl)) kk
            · refine zj_aload_n (pc := 78) C dX7_bestGate_78 rfl ?_
              refine zj_iload (pc := 79) C dX7_bestGate_79 rfl ?_
              refine zj_iload_n (pc := 81) C dX7_bestGate_81 rfl ?_
              refine zq_callP (pc := 82) C kv_X7_63 (m_X7_isIn (by omega) (by omega)) dX7_bestGate_82 rfl rfl rfl rfl rfl rfl ⟨0, rfl⟩ rfl rfl ?_
              refine zj_ifb_eq (pc := 85) 92 C dX7_bestGate_85 (by decide) (fun c_85 => ?_) (fun c_85 => ?_)
              · refine zj_iconst (pc := 92) (v := nI 0) C dX7_bestGate_92 (by decide) ?_
                exact zj_top (x' := bI (myB g d0 (k / 14) (k % 14))) (zq_f (by unfold myB; rw [← ei9, c_65, c_75, c_85]; rfl)) kk
              · refine zj_iconst (pc := 88) (v := nI 1) C dX7_bestGate_88 (by decide) ?_
                refine zj_goto (pc := 89) (tgt := 93) C dX7_bestGate_89 (by decide) ?_
                exact zj_top (x' := bI (myB g d0 (k / 14) (k % 14))) (zq_t (by unfold myB; rw [← ei9, c_65, c_75, c_85]; rfl)) kk
    · have hor : w < 0 ∨ 2 < w := by have h := c_17; unfold inB at h; simp at h; by_cases h1 : w < 0; exact Or.inl h1; exact Or.inr (h (Int32.not_lt.mp h1))
      have ho : rBG g (nI d0) w = -2 := by unfold rBG; rw [if_pos hin, if_pos hor]
      refine zj_bipush (pc := 20) (v := (-2)) C dX7_bestGate_20 (by decide) ?_
      refine zj_iret C hr hlocks dX7_bestGate_22 ?_
      exact zB_mk AG_rf ho.symm
  · have ho : rBG g d w = -1 := by unfold rBG; rw [if_neg (by rw [show inB d 1 3 = false from c_6]; decide)]
    refine zj_iconst (pc := 9) (v := (-1)) C dX7_bestGate_9 (by decide) ?_
    refine zj_iret C hr hlocks dX7_bestGate_10 ?_
    exact zB_mk AG_rf ho.symm
