/-- the walk: so many steps may still be taken from here, with this length and these crossings passed -/
def arB (g : Nat → Nat) (W : TC) (x al : Nat) : Bool := decide (W.2.2.2.2.1 (x * 12 + al) = 1) && decide (x = alC g al 0)
def wkG (g : Nat → Nat) (W : TC) (al : Nat) : Nat → Nat → Nat → Nat → Option (Nat × Nat × Nat)
  | 0, _, _, _ => none
  | k + 1, x, len, ps => if arB g W x al then some (30 - k, len, ps ||| 2 ^ x) else match fsN g W x al 24 with
    | none => none
    | some b => wkG g W al k (oeD g b x) (len + lnC g b 2) (ps ||| 2 ^ x)
theorem wkG_a {g : Nat → Nat} {W : TC} {al k x len ps : Nat} (h : arB g W x al = true) : wkG g W al (k + 1) x len ps = some (30 - k, len, ps ||| 2 ^ x) := by
  show (if arB g W x al then _ else _) = _
  rw [if_pos h]
theorem wkG_n {g : Nat → Nat} {W : TC} {al k x len ps : Nat} (h : arB g W x al = false) (h2 : fsN g W x al 24 = none) : wkG g W al (k + 1) x len ps = none := by
  show (if arB g W x al then _ else _) = _
  rw [h, h2]; rfl
theorem wkG_s {g : Nat → Nat} {W : TC} {al k x len ps b : Nat} (h : arB g W x al = false) (h2 : fsN g W x al 24 = some b) : wkG g W al (k + 1) x len ps = wkG g W al k (oeD g b x) (len + lnC g b 2) (ps ||| 2 ^ x) := by
  show (if arB g W x al then _ else _) = _
  rw [h, h2]; rfl
def aWKx (g : Nat → Nat) (W : TC) (x al : Nat) (w : Int32) : Int32 := match wkG g W al 31 x (alC g al 1) 0 with
  | none => -5
  | some (s, l, p) => if w = 0 then nI s else if w = 1 then nI l else nI p
def aWK (g : Nat → Nat) (W : TC) (x al w : Int32) : Int32 := if isC x && tHas (nI (kA g)) al then (if w < 0 ∨ 2 < w then -2 else aWKx g W x.toNatClampNeg al.toNatClampNeg w) else -1

set_option maxRecDepth 100000 in
set_option maxHeartbeats 4000000 in
theorem m_X6_walk {l : Launch} {G : GG} {ad : Nat → Nat → Nat} {q : Nat → Nat → Nat} {P Pd Ps : PC} {kp : Bool} {HP : Nat → PC} {hn : Nat} {t : Nat → Nat} {tn : Nat} {T : T7} {W1 W2 : TC} {st : Bool} {g : Nat → Nat} {x al w : Int32} (hP : PR g P) (hv : Vg g) (hW1 : TBT W1) : zX l G yX6_walk cX6_walk 9 (some .int) 7 163 0 0 [.ref (ad 0 0), .int x, .int al, .int w] (cls G ad q P Pd Ps kp HP hn t tn T W1 W2 st) (zF (some (.int (aWK g (wK g st W1) x al w))) (if (isC x && tHas (nI (kA g)) al) && (!(decide (w < 0)) && !(decide (2 < w))) then cls G ad q P Pd Ps kp HP hn t tn T (wK g st W1) W2 false else cls G ad q P Pd Ps kp HP hn t tn T W1 W2 st)) := by
  refine zj_startF RX6 (by decide +kernel) rfl rfl rfl (bs := [[((ad 0 0), .inr (6, [.ref (ad 1 0), .ref (ad 2 0), .ref (ad 3 0), .int (bI kp), .ref (ad 4 0), .ref (ad 5 0), .ref (ad 6 0), .ref (ad 7 0), .int (bI st)]))], plan G (ad 1) P, plan G (ad 2) Pd, plan G (ad 3) Ps, hist G (ad 4) q HP hn, text G (ad 5 0) (ad 5 1) t tn T, totT G (ad 6) W1, totT G (ad 7) W2]) rfl (lo := [some (.ref (ad 0 0)), some (.int x), some (.int al), some (.int w), none, none, none, none, none]) rfl ?_
  intro p0 e0 s0 m0 args0 below0 meth0 c0 A0 C hr hlocks
  refine zj_iload_n (pc := 0) C dX6_walk_0 rfl ?_
  refine zj_callSF (pc := 1) C kv_X6_53 (m_X6_isCrossing) dX6_walk_1 rfl rfl rfl rfl rfl rfl ?_
  refine zj_ifb_eq (pc := 4) 18 C dX6_walk_4 (by decide) (fun c_4 => ?_) (fun c_4 => ?_)
  · refine zj_iconst (pc := 18) (v := (-1)) C dX6_walk_18 (by decide) ?_
    exact zj_iretF C hr hlocks dX6_walk_19 (by unfold aWK; rw [if_neg (by simp [c_4])]) (by rw [if_neg (by simp [c_4])]; rfl)
  · refine zj_aload_n (pc := 7) C dX6_walk_7 rfl ?_
    refine gf_X6_0 (pc := 8) C dX6_walk_8 0 rfl ?_
    refine zj_iload_n (pc := 11) C dX6_walk_11 rfl ?_
    refine zj_callP1 (pc := 12) C kv_X6_102 (m_X1_hasAlley hP) dX6_walk_12 1 rfl rfl rfl rfl rfl rfl rfl ⟨0, rfl⟩ rfl rfl ?_
    refine zj_ifb_ne (pc := 15) 20 C dX6_walk_15 (by decide) (fun c_15 => ?_) (fun c_15 => ?_)
    · refine zj_iload_n (pc := 20) C dX6_walk_20 rfl ?_
      refine zj_if_lt (pc := 21) 29 C dX6_walk_21 (by decide) (fun c_21 => ?_) (fun c_21 => ?_)
      · refine zj_bipush (pc := 29) (v := (-2)) C dX6_walk_29 (by decide) ?_
        have hw : ¬ (!(decide (w < 0)) && !(decide (2 < w))) = true := by simp [c_21]
        exact zj_iretF C hr hlocks dX6_walk_31 (by unfold aWK; rw [if_pos (by simp [c_4, c_15]), if_pos (Or.inl c_21)]) (by rw [if_neg (fun h => hw (by simp only [Bool.and_eq_true] at h ⊢; exact h.2))]; rfl)
      · refine zj_iload_n (pc := 24) C dX6_walk_24 rfl ?_
        refine zj_iconst (pc := 25) (v := 2) C dX6_walk_25 (by decide) ?_
        refine zj_icmp_le (pc := 26) 32 C dX6_walk_26 (by decide) (fun c_26 => ?_) (fun c_26 => ?_)
        · have h99 : ¬ 2 < w := Int32.not_lt.mpr c_26
          have hor : ¬ (w < 0 ∨ 2 < w) := fun h => h.elim c_21 h99
          obtain ⟨x0, hx0, hxx0⟩ := isC_n c_4
          have hnx0 : x.toNatClampNeg = x0 := by rw [hxx0]; exact nI_clamp (by have := hv.2.1; omega)
          obtain ⟨al0, hal0, hxal0⟩ := tHas_s (by have := hv.2.1; omega) c_15
          have hnal0 : al.toNatClampNeg = al0 := by rw [hxal0]; exact nI_clamp (by have := hv.2.1; omega)
          refine zj_loc (lo' := [some (.ref (ad 0 0)), some (.int (nI x0)), some (.int (nI al0)), some (.int w), none, none, none, none, none]) (by rw [hxx0, hxal0]) ?_
          refine zj_aload_n (pc := 32) C dX6_walk_32 rfl ?_
          refine zj_callA (pc := 33) C kv_X6_156 (m_X6_workOut hP hv hW1) dX6_walk_33 [0, 1, 2, 3, 4, 5, 6, 7] [] rfl rfl rfl rfl rfl rfl rfl rfl ⟨0, rfl⟩ rfl rfl (fun v w1 hq => ?_)
          obtain ⟨rfl, rfl⟩ := hq
          refine zj_blk (bs' := [[((ad 0 0), .inr (6, [.ref (ad 1 0), .ref (ad 2 0), .ref (ad 3 0), .int (bI kp), .ref (ad 4 0), .ref (ad 5 0), .ref (ad 6 0), .ref (ad 7 0), .int (bI false)]))], plan G (ad 1) P, plan G (ad 2) Pd, plan G (ad 3) Ps, hist G (ad 4) q HP hn, text G (ad 5 0) (ad 5 1) t tn T, totT G (ad 6) (wK g st W1), totT G (ad 7) W2]) rfl ?_
          have hWK : TBT (wK g st W1) := wK_TBT hv hW1
          refine zj_iload_n (pc := 36) C dX6_walk_36 rfl ?_
          refine zj_istore (pc := 37) C dX6_walk_37 (Nat.le_of_ble_eq_true rfl) ?_
          refine zj_aload_n (pc := 39) C dX6_walk_39 rfl ?_
          refine gf_X6_0 (pc := 40) C dX6_walk_40 0 rfl ?_
          refine zj_iload_n (pc := 43) C dX6_walk_43 rfl ?_
          refine zj_iconst (pc := 44) (v := 1) C dX6_walk_44 (by decide) ?_
          refine zj_callP1 (pc := 45) C kv_X6_162 (m_X1_alleyCell hP hv hal0 (c := 1) (by decide)) dX6_walk_45 1 rfl rfl rfl rfl rfl rfl rfl ⟨0, rfl⟩ rfl rfl ?_
          refine zj_top (x' := nI (alC g al0 1)) rfl ?_
          refine zj_istore (pc := 48) C dX6_walk_48 (Nat.le_of_ble_eq_true rfl) ?_
          refine zj_iconst (pc := 50) (v := 0) C dX6_walk_50 (by decide) ?_
          refine zj_istore (pc := 51) C dX6_walk_51 (Nat.le_of_ble_eq_true rfl) ?_
          refine zj_iconst (pc := 53) (v := 0) C dX6_walk_53 (by decide) ?_
          refine zj_istore (pc := 54) C dX6_walk_54 (Nat.le_of_ble_eq_true rfl) ?_
          refine zj_keep [true, true, true, true, true, true, true, true, false] ?_
          refine zj_loopW (σ := Nat × Nat × Nat × Nat) (fun x => x.1 ≤ 31 ∧ x.2.1 < 14 ∧ x.2.2.1 ≤ 20 + 20 * x.1 ∧ x.2.2.2 < 2 ^ 14 ∧ wkG g (wK g st W1) al0 (31 - x.1) x.2.1 x.2.2.1 x.2.2.2 = wkG g (wK g st W1) al0 31 x0 (alC g al0 1) 0) (fun x => 31 - x.1) (fun x => [[((ad 0 0), .inr (6, [.ref (ad 1 0), .ref (ad 2 0), .ref (ad 3 0), .int (bI kp), .ref (ad 4 0), .ref (ad 5 0), .ref (ad 6 0), .ref (ad 7 0), .int (bI false)]))], plan G (ad 1) P, plan G (ad 2) Pd, plan G (ad 3) Ps, hist G (ad 4) q HP hn, text G (ad 5 0) (ad 5 1) t tn T, totT G (ad 6) (wK g st W1), totT G (ad 7) W2]) (fun x => [some (.ref (ad 0 0)), some (.int (nI x0)), some (.int (nI al0)), some (.int w), some (.int (nI (x.2.1))), some (.int (nI (x.2.2.1))), some (.int (nI (x.2.2.2))), some (.int (nI (x.1))), none]) ?_ (0, x0, alC g al0 1, 0) ⟨Nat.zero_le _, hx0, by have := (hv.2.2.2.2 al0 hal0).2.1; show alC g al0 1 ≤ 20 + 20 * 0; omega, (show 0 < 2 ^ 14 by decide), rfl⟩
          intro y hy ih
          obtain ⟨n, hr0, len, ps⟩ := y
          obtain ⟨hn9, hh9, hl9, hp9, hI⟩ := hy
          simp only at hn9 hh9 hl9 hp9 hI
          refine zj_loc (lo' := [some (.ref (ad 0 0)), some (.int (nI x0)), some (.int (nI al0)), some (.int w), some (.int (nI (hr0))), some (.int (nI (len))), some (.int (nI (ps))), some (.int (nI (n))), none]) rfl ?_
          refine zj_iload (pc := 56) C dX6_walk_56 rfl ?_
          refine zj_bipush (pc := 58) (v := 30) C dX6_walk_58 (by decide) ?_
          refine zj_icmp_gt (pc := 60) 157 C dX6_walk_60 (by decide) (fun c_60 => ?_) (fun c_60 => ?_)
          · refine zj_bipush (pc := 157) (v := (-5)) C dX6_walk_157 (by decide) ?_
            have hn31 : n = 31 := by have := zlt (a := 30) (b := n) (Int32.not_le.mpr c_60) (by decide); omega
            subst hn31
            exact zj_iretF C hr hlocks dX6_walk_159 (by unfold aWK; rw [if_pos (by simp [c_4, c_15]), if_neg hor, hnx0, hnal0]; unfold aWKx; rw [← hI]; rfl) (by rw [if_pos (by simp [c_4, c_15, c_21, h99])]; rfl)
          · have hn30 : n ≤ 30 := zle (a := 30) (b := n) (Int32.not_lt.mp c_60) (by omega)
            refine zj_iload (pc := 63) C dX6_walk_63 rfl ?_
            refine zj_iconst (pc := 65) (v := 1) C dX6_walk_65 (by decide) ?_
            refine zj_iload (pc := 66) C dX6_walk_66 rfl ?_
            refine zj_ishl (pc := 68) C dX6_walk_68 ?_
            refine zj_ior (pc := 69) C dX6_walk_69 ?_
            refine zj_top (x' := nI (ps ||| 2 ^ hr0)) (by rw [nI_shl (by omega), nI_or]) ?_
            refine zj_istore (pc := 70) C dX6_walk_70 (Nat.le_of_ble_eq_true rfl) ?_
            refine zj_aload_n (pc := 72) C dX6_walk_72 rfl ?_
            refine zj_iload (pc := 73) C dX6_walk_73 rfl ?_
            refine zj_iload_n (pc := 75) C dX6_walk_75 rfl ?_
            refine zj_callPA (pc := 76) C kv_X6_205 (m_X6_hasArrived hP hv hWK hh9 hal0) dX6_walk_76 [0, 1, 2, 3, 4, 5, 6, 7] [] rfl rfl rfl rfl rfl rfl rfl rfl ⟨0, rfl⟩ rfl rfl ?_
            refine zj_ifb_eq (pc := 79) 104 C dX6_walk_79 (by decide) (fun c_79 => ?_) (fun c_79 => ?_)
            · refine zj_aload_n (pc := 104) C dX6_walk_104 rfl ?_
              refine zj_iload (pc := 105) C dX6_walk_105 rfl ?_
              refine zj_iload_n (pc := 107) C dX6_walk_107 rfl ?_
              refine zj_callPA (pc := 108) C kv_X6_196 (m_X6_firstStep hP hv hWK hh9 hal0) dX6_walk_108 [0, 1, 2, 3, 4, 5, 6, 7] [] rfl rfl rfl rfl rfl rfl rfl rfl ⟨0, rfl⟩ rfl rfl ?_
              refine zj_istore (pc := 111) C dX6_walk_111 (Nat.le_of_ble_eq_true rfl) ?_
              rcases hfs : fsN g (wK g st W1) hr0 al0 24 with _ | b0
              · refine zj_loc (lo' := [some (.ref (ad 0 0)), some (.int (nI x0)), some (.int (nI al0)), some (.int w), some (.int (nI (hr0))), some (.int (nI (len))), some (.int (nI (ps ||| 2 ^ hr0))), some (.int (nI (n))), some (.int (-5))]) rfl ?_
                refine zj_iload (pc := 113) C dX6_walk_113 rfl ?_
                refine zj_bipush (pc := 115) (v := (-5)) C dX6_walk_115 (by decide) ?_
                refine zj_icmp_ne (pc := 117) 123 C dX6_walk_117 (by decide) (fun c_117 => absurd rfl c_117) (fun c_117 => ?_)
                refine zj_bipush (pc := 120) (v := (-5)) C dX6_walk_120 (by decide) ?_
                exact zj_iretF C hr hlocks dX6_walk_122 (by unfold aWK; rw [if_pos (by simp [c_4, c_15]), if_neg hor, hnx0, hnal0]; unfold aWKx; rw [← hI, show 31 - n = (30 - n) + 1 by omega, wkG_n (show arB g (wK g st W1) hr0 al0 = false from c_79) hfs]) (by rw [if_pos (by simp [c_4, c_15, c_21, h99])]; rfl)
              obtain ⟨o1, o2, o3⟩ := stW_oe hv (fsN_s hfs).1
              have hlc := V_cell hv o3 (c := 2) (by decide)
              obtain ⟨l0, l1, l2, l3, l4, l5, l6⟩ := hv.2.2.2.1 b0 o3
              refine zj_loc (lo' := [some (.ref (ad 0 0)), some (.int (nI x0)), some (.int (nI al0)), some (.int w), some (.int (nI (hr0))), some (.int (nI (len))), some (.int (nI (ps ||| 2 ^ hr0))), some (.int (nI (n))), some (.int (nI b0))]) rfl ?_
              refine zj_iload (pc := 113) C dX6_walk_113 rfl ?_
              refine zj_bipush (pc := 115) (v := (-5)) C dX6_walk_115 (by decide) ?_
              refine zj_icmp_ne (pc := 117) 123 C dX6_walk_117 (by decide) (fun c_117 => ?_) (fun c_117 => absurd c_117 (nI_ne5 (by have := hv.1; omega)))
              refine zj_iload (pc := 123) C dX6_walk_123 rfl ?_
              refine zj_aload_n (pc := 125) C dX6_walk_125 rfl ?_
              refine gf_X6_0 (pc := 126) C dX6_walk_126 0 rfl ?_
              refine zj_iload (pc := 129) C dX6_walk_129 rfl ?_
              refine zj_iconst (pc := 131) (v := 2) C dX6_walk_131 (by decide) ?_
              refine zj_callP1 (pc := 132) C kv_X6_152 (m_X1_laneCell hP hv o3 (c := 2) (by decide)) dX6_walk_132 1 rfl rfl rfl rfl rfl rfl rfl ⟨0, rfl⟩ rfl rfl ?_
              refine zj_iadd (pc := 135) C dX6_walk_135 ?_
              refine zj_top (x' := nI (len + lnC g b0 2)) (nI_add _ _) ?_
              refine zj_istore (pc := 136) C dX6_walk_136 (Nat.le_of_ble_eq_true rfl) ?_
              refine zj_aload_n (pc := 138) C dX6_walk_138 rfl ?_
              refine gf_X6_0 (pc := 139) C dX6_walk_139 0 rfl ?_
              refine zj_iload (pc := 142) C dX6_walk_142 rfl ?_
              refine zj_iload (pc := 144) C dX6_walk_144 rfl ?_
              refine zj_callP1 (pc := 146) C kv_X6_199 (m_X1_otherEnd hP hv (by have := hv.1; omega) hh9) dX6_walk_146 1 rfl rfl rfl rfl rfl rfl rfl ⟨0, rfl⟩ rfl rfl ?_
              refine zj_top (x' := nI (oeD g b0 hr0)) (by rw [o1]; rfl) ?_
              refine zj_istore (pc := 149) C dX6_walk_149 (Nat.le_of_ble_eq_true rfl) ?_
              refine zj_iinc (pc := 151) (v := nI (n + 1)) C dX6_walk_151 rfl (nI_1 _) ?_
              refine zj_goto (pc := 154) (tgt := 56) C dX6_walk_154 (by decide) ?_
              refine zj_keep [true, true, true, true, true, true, true, true, false] ?_
              refine ih (n + 1, oeD g b0 hr0, len + lnC g b0 2, ps ||| 2 ^ hr0) ⟨by show n + 1 ≤ 31; omega, o2, by show len + lnC g b0 2 ≤ 20 + 20 * (n + 1); omega, or_lt hp9 (Nat.pow_lt_pow_right (by decide) hh9), ?_⟩ (by show 31 - (n + 1) < 31 - n; omega)
              rw [← hI]
              show wkG g (wK g st W1) al0 (31 - (n + 1)) _ _ _ = _
              rw [show 31 - n = (31 - (n + 1)) + 1 by omega, wkG_s (show arB g (wK g st W1) hr0 al0 = false from c_79) hfs]
            · refine zj_iload_n (pc := 82) C dX6_walk_82 rfl ?_
              refine zj_if_ne (pc := 83) 91 C dX6_walk_83 (by decide) (fun c_83 => ?_) (fun c_83 => ?_)
              · refine zj_iload_n (pc := 91) C dX6_walk_91 rfl ?_
                refine zj_iconst (pc := 92) (v := 1) C dX6_walk_92 (by decide) ?_
                refine zj_icmp_ne (pc := 93) 101 C dX6_walk_93 (by decide) (fun c_93 => ?_) (fun c_93 => ?_)
                · refine zj_iload (pc := 101) C dX6_walk_101 rfl ?_
                  have h31 : 31 - n = (30 - n) + 1 := by omega
                  exact zj_iretF C hr hlocks dX6_walk_103 (by unfold aWK; rw [if_pos (by simp [c_4, c_15]), if_neg hor, hnx0, hnal0]; unfold aWKx; rw [← hI, h31, wkG_a (show arB g (wK g st W1) hr0 al0 = true from c_79), show 30 - (30 - n) = n by omega]; show _ = (if w = 0 then _ else _); rw [if_neg c_83, if_neg c_93]) (by rw [if_pos (by simp [c_4, c_15, c_21, h99])]; rfl)
                · refine zj_iload (pc := 96) C dX6_walk_96 rfl ?_
                  refine zj_goto (pc := 98) (tgt := 103) C dX6_walk_98 (by decide) ?_
                  have h31 : 31 - n = (30 - n) + 1 := by omega
                  exact zj_iretF C hr hlocks dX6_walk_103 (by unfold aWK; rw [if_pos (by simp [c_4, c_15]), if_neg hor, hnx0, hnal0]; unfold aWKx; rw [← hI, h31, wkG_a (show arB g (wK g st W1) hr0 al0 = true from c_79), show 30 - (30 - n) = n by omega]; show _ = (if w = 0 then _ else _); rw [if_neg c_83, if_pos c_93]) (by rw [if_pos (by simp [c_4, c_15, c_21, h99])]; rfl)
              · refine zj_iload (pc := 86) C dX6_walk_86 rfl ?_
                refine zj_goto (pc := 88) (tgt := 103) C dX6_walk_88 (by decide) ?_
                have h31 : 31 - n = (30 - n) + 1 := by omega
                exact zj_iretF C hr hlocks dX6_walk_103 (by unfold aWK; rw [if_pos (by simp [c_4, c_15]), if_neg hor, hnx0, hnal0]; unfold aWKx; rw [← hI, h31, wkG_a (show arB g (wK g st W1) hr0 al0 = true from c_79), show 30 - (30 - n) = n by omega]; show _ = (if w = 0 then _ else _); rw [if_pos c_83]) (by rw [if_pos (by simp [c_4, c_15, c_21, h99])]; rfl)
        · refine zj_bipush (pc := 29) (v := (-2)) C dX6_walk_29 (by decide) ?_
          have h99 : 2 < w := Int32.not_le.mp c_26
          have hw : ¬ (!(decide (w < 0)) && !(decide (2 < w))) = true := by simp [h99]
          exact zj_iretF C hr hlocks dX6_walk_31 (by unfold aWK; rw [if_pos (by simp [c_4, c_15]), if_pos (Or.inr h99)]) (by rw [if_neg (fun h => hw (by simp only [Bool.and_eq_true] at h ⊢; exact h.2))]; rfl)
    · refine zj_iconst (pc := 18) (v := (-1)) C dX6_walk_18 (by decide) ?_
      exact zj_iretF C hr hlocks dX6_walk_19 (by unfold aWK; rw [if_neg (by simp [c_4, c_15])]) (by rw [if_neg (by simp [c_4, c_15])]; rfl)
