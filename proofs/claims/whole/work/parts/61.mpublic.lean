/-! THE REFERENCE'S ANSWERS ABOUT TOTALS -/
def rTO (g : Nat → Nat) (x al w : Int32) : Int32 := if isC x && tHas (nI (kA g)) al then (if w < 0 ∨ 3 < w then -2 else if FR g al.toNatClampNeg x.toNatClampNeg = 0 then -5 else if w = 0 then nI (FS g al.toNatClampNeg x.toNatClampNeg) else if w = 1 then nI (FR g al.toNatClampNeg x.toNatClampNeg) else if w = 2 then optI (lwG (sfN g x.toNatClampNeg al.toNatClampNeg (kL g)) 14) else nI (sfN g x.toNatClampNeg al.toNatClampNeg (kL g))) else -1
def arR (g : Nat → Nat) (al x : Nat) : Bool := decide (x = alC g al 0) && decide (FR g al x = 1)
def rwN (g : Nat → Nat) (al : Nat) : Nat → Nat → Nat → Nat → Option (Nat × Nat × Nat)
  | 0, _, _, _ => none
  | k + 1, x, sm, ps => if arR g al x then some (30 - k, sm, ps) else match lwG (sfN g x al (kL g)) 14 with
    | none => none
    | some nx => rwN g al k nx (sm + ssN g x nx al (kL g)) (ps ||| 2 ^ nx)
def nxS (g : Nat → Nat) (x al : Nat) (o : Option Nat) : Nat := match o with
  | none => 0
  | some nx => ssN g x nx al (kL g)
def nxP (o : Option Nat) : Nat := match o with
  | none => 0
  | some nx => 2 ^ nx
def rwO (g : Nat → Nat) (al : Nat) (o : Option Nat) (k sm ps : Nat) : Option (Nat × Nat × Nat) := match o with
  | none => none
  | some x => rwN g al k x sm ps
theorem rwN_s {g : Nat → Nat} {al k x sm ps : Nat} (h : arR g al x = false) : rwN g al (k + 1) x sm ps = rwO g al (lwG (sfN g x al (kL g)) 14) k (sm + nxS g x al (lwG (sfN g x al (kL g)) 14)) (ps ||| nxP (lwG (sfN g x al (kL g)) 14)) := by
  show (if arR g al x then _ else _) = _
  rw [h, if_neg (by decide)]
  cases lwG (sfN g x al (kL g)) 14 <;> rfl
theorem rwN_a {g : Nat → Nat} {al k x sm ps : Nat} (h : arR g al x = true) : rwN g al (k + 1) x sm ps = some (30 - k, sm, ps) := if_pos h
theorem nxS_le (g : Nat → Nat) (x al : Nat) (o : Option Nat) : nxS g x al o ≤ 1000000 := by
  cases o with
  | none => exact Nat.zero_le _
  | some nx => exact ssN_le _ _ _ _ _
def rWx (g : Nat → Nat) (x al : Nat) (w : Int32) : Int32 := match rwN g al 31 x (alC g al 1) (2 ^ x) with
  | none => -5
  | some (a, b, c) => if w = 0 then nI a else if w = 1 then nI b else nI c
def rWK (g : Nat → Nat) (x al w : Int32) : Int32 := if isC x && tHas (nI (kA g)) al then (if w < 0 ∨ 2 < w then -2 else rWx g x.toNatClampNeg al.toNatClampNeg w) else -1
def rSH (g : Nat → Nat) (x al : Int32) : Int32 := if isC x && tHas (nI (kA g)) al then nFar (shO g x.toNatClampNeg al.toNatClampNeg) else -1
def rST (g : Nat → Nat) (x al : Int32) : UInt32 := if isC x && tHas (nI (kA g)) al then (if FR g al.toNatClampNeg x.toNatClampNeg = 0 then 3212836864 else if shO g x.toNatClampNeg al.toNatClampNeg = 0 then FP.fconst1 else FP.fdiv (FP.i2f (nI (FS g al.toNatClampNeg x.toNatClampNeg))) (FP.i2f (nI (shO g x.toNatClampNeg al.toNatClampNeg)))) else 3212836864
def prI (g : Nat → Nat) (w x al : Nat) : Bool := if w = 4 then !(decide (FR g al x = 0)) else if w = 5 then !(!(decide (FR g al x = 0))) else if w = 6 then !(!(decide (FR g al x = 0))) && decide (shO g x al < 1000000) else !(decide (FR g al x = 0)) && decide (shO g x al < FS g al x)
def prB (g : Nat → Nat) (w x al : Nat) : Bool := prI g w x al && !(bitS (gdB g false x) 4 == 0)
def prN (g : Nat → Nat) (w n : Nat) : Nat := cntB (fun k => prB g w (k % 14) (k / 14)) n
def rCT (g : Nat → Nat) (kn ln : Nat) (w : Int32) : Int32 := if w = 0 then nI (kL g) else if w = 1 then nI (cntB (told g) (kL g)) else if w = 2 then nI (kA g) else if w = 3 then nI (cntB (fun x => !(bitS (gdB g true x) 4 == 0)) 14) else if w = 4 then nI (prN g 4 (14 * kA g)) else if w = 5 then nI (prN g 5 (14 * kA g)) else if w = 6 then nI (prN g 6 (14 * kA g)) else if w = 7 then nI (prN g 7 (14 * kA g)) else if w = 8 then nI kn else if w = 9 then nI ln else -2
theorem shO_le {g : Nat → Nat} (hv : Vk g) {x al : Nat} (hx : x < 14) (ha : al < kA g) : shO g x al ≤ 1000020 := by
  obtain ⟨a12, a0, a1, a2⟩ := Vk_a hv ha
  have := dst_1M (Vk_l hv) (d := 4) hx a0
  unfold shO
  omega

set_option maxRecDepth 100000 in
set_option maxHeartbeats 4000000 in
theorem m_X7_total {l : Launch} {G : GG} {m : Nat → Nat} {g ga gh : Nat → Nat} {kn : Nat} {gk : Nat → Nat} {kp : Bool} {tx : Nat → Nat} {ln : Nat} {iz wy wa tt rr we : Nat → Nat} {sp : Nat} {wr : Bool} {er : Int32} {x al w : Int32} (hv : Vk g) : zX l G yX7_total cX7_total 5 (some .int) 5 124 0 0 [.ref (m 0), .int (x), .int (al), .int (w)] (mB G m g ga gh kn gk kp tx ln iz wy wa tt rr we sp wr er).flatten (zQ (some (.int (rTO g x al w))) G m g ga gh kn gk kp tx ln sp wr er) := by
  refine zj_startF RX7 (by decide +kernel) rfl rfl rfl (bs := (mB G m g ga gh kn gk kp tx ln iz wy wa tt rr we sp wr er)) rfl (lo := [some (.ref (m 0)), some (.int (x)), some (.int (al)), some (.int (w)), none]) rfl ?_
  intro p0 e0 s0 m0 args0 below0 meth0 c0 A0 C hr hlocks
  have hk : kL g ≤ 25 := hv.1
  have hke : kL g = g 14 := rfl
  have ha : kA g ≤ 12 := hv.2.1
  have hae : kA g = g 140 := rfl
  refine zj_iload_n (pc := 0) C dX7_total_0 rfl ?_
  refine zj_callSF (pc := 1) C kv_X7_125 (m_X7_isCrossing) dX7_total_1 rfl rfl rfl rfl rfl rfl ?_
  refine zj_ifb_eq (pc := 4) 15 C dX7_total_4 (by decide) (fun c_4 => ?_) (fun c_4 => ?_)
  · have ho : rTO g x al w = -1 := by unfold rTO; rw [if_neg (by simp [c_4])]
    refine zj_iconst (pc := 15) (v := (-1)) C dX7_total_15 (by decide) ?_
    refine zj_iret C hr hlocks dX7_total_16 ?_
    exact zQ_mk ho.symm
  · refine zj_aload_n (pc := 7) C dX7_total_7 rfl ?_
    refine zj_iload_n (pc := 8) C dX7_total_8 rfl ?_
    refine zq_callP (pc := 9) C kv_X7_154 (m_X7_isAlley hv) dX7_total_9 rfl rfl rfl rfl rfl rfl ⟨0, rfl⟩ rfl rfl ?_
    refine zj_ifb_ne (pc := 12) 17 C dX7_total_12 (by decide) (fun c_12 => ?_) (fun c_12 => ?_)
    · obtain ⟨x0, hx, rfl⟩ := isC_n c_4
      obtain ⟨i, hi, rfl⟩ := tHas_s (by omega) c_12
      have ex : (nI x0).toNatClampNeg = x0 := nI_clamp (by omega)
      have ei : (nI i).toNatClampNeg = i := nI_clamp (by omega)
      have hcc : (isC (nI x0) && tHas (nI (kA g)) (nI i)) = true := by rw [c_4, c_12]; rfl
      obtain ⟨a12, a0, a1, a2⟩ := Vk_a hv hi
      refine zj_iload_n (pc := 17) C dX7_total_17 rfl ?_
      refine zj_iconst (pc := 18) (v := nI 0) C dX7_total_18 (by decide) ?_
      refine zj_iconst (pc := 19) (v := nI 3) C dX7_total_19 (by decide) ?_
      refine zj_callSF (pc := 20) C kv_X7_43 (m_X7_in) dX7_total_20 rfl rfl rfl rfl rfl rfl ?_
      refine zj_ifb_ne (pc := 23) 29 C dX7_total_23 (by decide) (fun c_23 => ?_) (fun c_23 => ?_)
      · have hr2 : ¬ w < 0 ∧ ¬ 3 < w := by have h2 := c_23; unfold inB at h2; simp at h2; exact ⟨Int32.not_lt.mpr h2.1, Int32.not_lt.mpr h2.2⟩
        have hnor : ¬ (w < 0 ∨ 3 < w) := fun h => h.elim hr2.1 hr2.2
        have hr1 := hr2.1
        have hr3 := hr2.2
        obtain ⟨w0, hw0, rfl⟩ := nI_of2 (x := w) (M := 3) (n := 3) rfl hr1 (Int32.not_lt.mp hr3)
        have ew : (nI w0).toNatClampNeg = w0 := nI_clamp (by omega)
        have ha9 : rTO g (nI x0) (nI i) (nI w0) = if FR g i x0 = 0 then -5 else if nI w0 = 0 then nI (FS g i x0) else if nI w0 = 1 then nI (FR g i x0) else if nI w0 = 2 then optI (lwG (sfN g x0 i (kL g)) 14) else nI (sfN g x0 i (kL g)) := by unfold rTO; rw [if_pos hcc, if_neg hnor, ex, ei]
        have hr9 := FR_le g i x0
        have hs9 := sfN_lt hv (x := x0) (al := i) (kL g)
        refine zj_aload_n (pc := 29) C dX7_total_29 rfl ?_
        refine zq_callFn (pc := 30) (bs' := (mB G m g ga gh kn gk kp tx ln (izV g) (wyV g) wa (ttV g tt) (rrV g rr) we sp wr er)) C kv_X7_196 (m_X7_worksOutTotals hv) dX7_total_30 rfl rfl rfl rfl rfl rfl ⟨0, rfl⟩ rfl rfl ?_
        refine zj_aload_n (pc := 33) C dX7_total_33 rfl ?_
        refine zj_iload_n (pc := 34) C dX7_total_34 rfl ?_
        refine zj_iload_n (pc := 35) C dX7_total_35 rfl ?_
        refine zq_callP (pc := 36) C kv_X7_109 (m_X7_ruleForV (by omega) (by omega) (by omega)) dX7_total_36 rfl rfl rfl rfl rfl rfl ⟨0, rfl⟩ rfl rfl ?_
        refine zq_if_ne (pc := 39) 45 C dX7_total_39 (by decide) (by omega) (fun c_39 => ?_) (fun c_39 => ?_)
        · refine zj_aload_n (pc := 45) C dX7_total_45 rfl ?_
          refine zj_iload_n (pc := 46) C dX7_total_46 rfl ?_
          refine zj_iload_n (pc := 47) C dX7_total_47 rfl ?_
          refine zq_callP (pc := 48) C kv_X7_212 (m_X7_stepsFrom hv (by omega) (by omega)) dX7_total_48 rfl rfl rfl rfl rfl rfl ⟨0, rfl⟩ rfl rfl ?_
          refine zj_istore (pc := 51) C dX7_total_51 (Nat.le_of_ble_eq_true rfl) ?_
          refine zj_iload_n (pc := 53) C dX7_total_53 rfl ?_
          refine zq_if_ne (pc := 54) 66 C dX7_total_54 (by decide) (by omega) (fun c_54 => ?_) (fun c_54 => ?_)
          · refine zj_iload_n (pc := 66) C dX7_total_66 rfl ?_
            refine zj_iconst (pc := 67) (v := nI 1) C dX7_total_67 (by decide) ?_
            refine zq_icmp_ne (pc := 68) 80 C dX7_total_68 (by decide) (by omega) (by omega) (fun c_68 => ?_) (fun c_68 => ?_)
            · refine zj_iload_n (pc := 80) C dX7_total_80 rfl ?_
              refine zj_iconst (pc := 81) (v := nI 2) C dX7_total_81 (by decide) ?_
              refine zq_icmp_ne (pc := 82) 93 C dX7_total_82 (by decide) (by omega) (by omega) (fun c_82 => ?_) (fun c_82 => ?_)
              · refine zj_iload (pc := 93) C dX7_total_93 rfl ?_
                refine zj_iret C hr hlocks dX7_total_95 ?_
                exact zQ_mk (by rw [ha9, if_neg c_39, if_neg (fun h => by have := (nI_eq (a := w0) (b := 0) (by omega) (by decide)).mp h; omega), if_neg (fun h => by have := (nI_eq (a := w0) (b := 1) (by omega) (by decide)).mp h; omega), if_neg (fun h => by have := (nI_eq (a := w0) (b := 2) (by omega) (by decide)).mp h; omega)])
              · refine zj_iload (pc := 85) C dX7_total_85 rfl ?_
                refine zj_callSF (pc := 87) C kv_X7_215 (m_X7_lowestOf (by omega)) dX7_total_87 rfl rfl rfl rfl rfl rfl ?_
                refine zj_goto (pc := 90) (tgt := 95) C dX7_total_90 (by decide) ?_
                refine zj_iret C hr hlocks dX7_total_95 ?_
                exact zQ_mk (by rw [ha9, if_neg c_39, if_neg (fun h => by have := (nI_eq (a := w0) (b := 0) (by omega) (by decide)).mp h; omega), if_neg (fun h => by have := (nI_eq (a := w0) (b := 1) (by omega) (by decide)).mp h; omega), if_pos (show nI w0 = 2 by rw [show w0 = 2 by omega]; rfl)])
            · refine zj_aload_n (pc := 71) C dX7_total_71 rfl ?_
              refine zj_iload_n (pc := 72) C dX7_total_72 rfl ?_
              refine zj_iload_n (pc := 73) C dX7_total_73 rfl ?_
              refine zq_callP (pc := 74) C kv_X7_109 (m_X7_ruleForV (by omega) (by omega) (by omega)) dX7_total_74 rfl rfl rfl rfl rfl rfl ⟨0, rfl⟩ rfl rfl ?_
              refine zj_goto (pc := 77) (tgt := 95) C dX7_total_77 (by decide) ?_
              refine zj_iret C hr hlocks dX7_total_95 ?_
              exact zQ_mk (by rw [ha9, if_neg c_39, if_neg (fun h => by have := (nI_eq (a := w0) (b := 0) (by omega) (by decide)).mp h; omega), if_pos (show nI w0 = 1 by rw [show w0 = 1 by omega]; rfl)])
          · refine zj_aload_n (pc := 57) C dX7_total_57 rfl ?_
            refine zj_iload_n (pc := 58) C dX7_total_58 rfl ?_
            refine zj_iload_n (pc := 59) C dX7_total_59 rfl ?_
            refine zq_callP (pc := 60) C kv_X7_116 (m_X7_sumForV (by omega) (by omega) (by omega)) dX7_total_60 rfl rfl rfl rfl rfl rfl ⟨0, rfl⟩ rfl rfl ?_
            refine zj_goto (pc := 63) (tgt := 95) C dX7_total_63 (by decide) ?_
            refine zj_iret C hr hlocks dX7_total_95 ?_
            exact zQ_mk (by rw [ha9, if_neg c_39, if_pos (show nI w0 = 0 by rw [show w0 = 0 by omega]; rfl)])
        · refine zj_bipush (pc := 42) (v := (-5)) C dX7_total_42 (by decide) ?_
          refine zj_iret C hr hlocks dX7_total_44 ?_
          exact zQ_mk (by rw [ha9, if_pos c_39])
      · have hor : w < 0 ∨ 3 < w := by have h := c_23; unfold inB at h; simp at h; by_cases h1 : w < 0; exact Or.inl h1; exact Or.inr (h (Int32.not_lt.mp h1))
        have ho : rTO g (nI x0) (nI i) w = -2 := by unfold rTO; rw [if_pos hcc, if_pos hor]
        refine zj_bipush (pc := 26) (v := (-2)) C dX7_total_26 (by decide) ?_
        refine zj_iret C hr hlocks dX7_total_28 ?_
        exact zQ_mk ho.symm
    · have ho : rTO g x al w = -1 := by unfold rTO; rw [if_neg (by simp [c_4, c_12])]
      refine zj_iconst (pc := 15) (v := (-1)) C dX7_total_15 (by decide) ?_
      refine zj_iret C hr hlocks dX7_total_16 ?_
      exact zQ_mk ho.symm
set_option maxRecDepth 100000 in
set_option maxHeartbeats 4000000 in
theorem m_X7_shortest {l : Launch} {G : GG} {m : Nat → Nat} {g ga gh : Nat → Nat} {kn : Nat} {gk : Nat → Nat} {kp : Bool} {tx : Nat → Nat} {ln : Nat} {iz wy wa tt rr we : Nat → Nat} {sp : Nat} {wr : Bool} {er : Int32} {x al : Int32} (hv : Vk g) : zX l G yX7_shortest cX7_shortest 3 (some .int) 4 91 0 0 [.ref (m 0), .int (x), .int (al)] (mB G m g ga gh kn gk kp tx ln iz wy wa tt rr we sp wr er).flatten (zQ (some (.int (rSH g x al))) G m g ga gh kn gk kp tx ln sp wr er) := by
  refine zj_startF RX7 (by decide +kernel) rfl rfl rfl (bs := (mB G m g ga gh kn gk kp tx ln iz wy wa tt rr we sp wr er)) rfl (lo := [some (.ref (m 0)), some (.int (x)), some (.int (al))]) rfl ?_
  intro p0 e0 s0 m0 args0 below0 meth0 c0 A0 C hr hlocks
  have ha : kA g ≤ 12 := hv.2.1
  have hae : kA g = g 140 := rfl
  refine zj_iload_n (pc := 0) C dX7_shortest_0 rfl ?_
  refine zj_callSF (pc := 1) C kv_X7_125 (m_X7_isCrossing) dX7_shortest_1 rfl rfl rfl rfl rfl rfl ?_
  refine zj_ifb_eq (pc := 4) 15 C dX7_shortest_4 (by decide) (fun c_4 => ?_) (fun c_4 => ?_)
  · have ho : rSH g x al = -1 := by unfold rSH; rw [if_neg (by simp [c_4])]
    refine zj_iconst (pc := 15) (v := (-1)) C dX7_shortest_15 (by decide) ?_
    refine zj_iret C hr hlocks dX7_shortest_16 ?_
    exact zQ_mk ho.symm
  · refine zj_aload_n (pc := 7) C dX7_shortest_7 rfl ?_
    refine zj_iload_n (pc := 8) C dX7_shortest_8 rfl ?_
    refine zq_callP (pc := 9) C kv_X7_154 (m_X7_isAlley hv) dX7_shortest_9 rfl rfl rfl rfl rfl rfl ⟨0, rfl⟩ rfl rfl ?_
    refine zj_ifb_ne (pc := 12) 17 C dX7_shortest_12 (by decide) (fun c_12 => ?_) (fun c_12 => ?_)
    · obtain ⟨x0, hx, rfl⟩ := isC_n c_4
      obtain ⟨i, hi, rfl⟩ := tHas_s (by omega) c_12
      have ex : (nI x0).toNatClampNeg = x0 := nI_clamp (by omega)
      have ei : (nI i).toNatClampNeg = i := nI_clamp (by omega)
      have hcc : (isC (nI x0) && tHas (nI (kA g)) (nI i)) = true := by rw [c_4, c_12]; rfl
      obtain ⟨a12, a0, a1, a2⟩ := Vk_a hv hi
      have hb := shO_le hv hx hi
      have ho : rSH g (nI x0) (nI i) = nFar (shO g x0 i) := by unfold rSH; rw [if_pos hcc, ex, ei]
      refine zj_aload_n (pc := 17) C dX7_shortest_17 rfl ?_
      refine zq_callFn (pc := 18) (bs' := (mB G m g ga gh kn gk kp tx ln iz wy (dsF g 4) tt rr we sp wr er)) C kv_X7_221 (m_X7_worksOutAll hv) dX7_shortest_18 rfl rfl rfl rfl rfl rfl ⟨0, rfl⟩ rfl rfl ?_
      refine zj_aload_n (pc := 21) C dX7_shortest_21 rfl ?_
      refine zj_iload_n (pc := 22) C dX7_shortest_22 rfl ?_
      refine zj_iload_n (pc := 23) C dX7_shortest_23 rfl ?_
      refine zq_callP (pc := 24) C kv_X7_224 (m_X7_shortestOf hv (by omega) (by omega)) dX7_shortest_24 rfl rfl rfl rfl rfl rfl ⟨0, rfl⟩ rfl rfl ?_
      refine zj_ldc (pc := 27) (v := nI 1000000) C dX7_shortest_27 aq_1022 ?_
      refine zq_icmp_ge (pc := 29) 41 C dX7_shortest_29 (by decide) (by omega) (by omega) (fun c_29 => ?_) (fun c_29 => ?_)
      · refine zj_bipush (pc := 41) (v := (-5)) C dX7_shortest_41 (by decide) ?_
        refine zj_iret C hr hlocks dX7_shortest_43 ?_
        exact zQ_mk (by rw [ho]; unfold nFar; rw [if_neg (by omega)])
      · refine zj_aload_n (pc := 32) C dX7_shortest_32 rfl ?_
        refine zj_iload_n (pc := 33) C dX7_shortest_33 rfl ?_
        refine zj_iload_n (pc := 34) C dX7_shortest_34 rfl ?_
        refine zq_callP (pc := 35) C kv_X7_224 (m_X7_shortestOf hv (by omega) (by omega)) dX7_shortest_35 rfl rfl rfl rfl rfl rfl ⟨0, rfl⟩ rfl rfl ?_
        refine zj_goto (pc := 38) (tgt := 43) C dX7_shortest_38 (by decide) ?_
        refine zj_iret C hr hlocks dX7_shortest_43 ?_
        exact zQ_mk (by rw [ho]; unfold nFar; rw [if_pos c_29])
    · have ho : rSH g x al = -1 := by unfold rSH; rw [if_neg (by simp [c_4, c_12])]
      refine zj_iconst (pc := 15) (v := (-1)) C dX7_shortest_15 (by decide) ?_
      refine zj_iret C hr hlocks dX7_shortest_16 ?_
      exact zQ_mk ho.symm
set_option maxRecDepth 100000 in
set_option maxHeartbeats 4000000 in
theorem m_X7_stretch {l : Launch} {G : GG} {m : Nat → Nat} {g ga gh : Nat → Nat} {kn : Nat} {gk : Nat → Nat} {kp : Bool} {tx : Nat → Nat} {ln : Nat} {iz wy wa tt rr we : Nat → Nat} {sp : Nat} {wr : Bool} {er : Int32} {x al : Int32} (hv : Vk g) : zX l G yX7_stretch cX7_stretch 4 (some .float) 5 117 0 0 [.ref (m 0), .int (x), .int (al)] (mB G m g ga gh kn gk kp tx ln iz wy wa tt rr we sp wr er).flatten (zQ (some (.float (rST g x al))) G m g ga gh kn gk kp tx ln sp wr er) := by
  refine zj_startF RX7 (by decide +kernel) rfl rfl rfl (bs := (mB G m g ga gh kn gk kp tx ln iz wy wa tt rr we sp wr er)) rfl (lo := [some (.ref (m 0)), some (.int (x)), some (.int (al)), none]) rfl ?_
  intro p0 e0 s0 m0 args0 below0 meth0 c0 A0 C hr hlocks
  have ha : kA g ≤ 12 := hv.2.1
  have hae : kA g = g 140 := rfl
  refine zj_iload_n (pc := 0) C dX7_stretch_0 rfl ?_
  refine zj_callSF (pc := 1) C kv_X7_125 (m_X7_isCrossing) dX7_stretch_1 rfl rfl rfl rfl rfl rfl ?_
  refine zj_ifb_eq (pc := 4) 15 C dX7_stretch_4 (by decide) (fun c_4 => ?_) (fun c_4 => ?_)
  · have ho : rST g x al = 3212836864 := by unfold rST; rw [if_neg (by simp [c_4])]
    refine zj_ldcf (pc := 15) (v := 3212836864) C dX7_stretch_15 aq_1133 ?_
    refine zj_fret C hr hlocks dX7_stretch_17 ?_
    exact zQ_mf ho.symm
  · refine zj_aload_n (pc := 7) C dX7_stretch_7 rfl ?_
    refine zj_iload_n (pc := 8) C dX7_stretch_8 rfl ?_
    refine zq_callP (pc := 9) C kv_X7_154 (m_X7_isAlley hv) dX7_stretch_9 rfl rfl rfl rfl rfl rfl ⟨0, rfl⟩ rfl rfl ?_
    refine zj_ifb_ne (pc := 12) 18 C dX7_stretch_12 (by decide) (fun c_12 => ?_) (fun c_12 => ?_)
    · obtain ⟨x0, hx, rfl⟩ := isC_n c_4
      obtain ⟨i, hi, rfl⟩ := tHas_s (by omega) c_12
      have ex : (nI x0).toNatClampNeg = x0 := nI_clamp (by omega)
      have ei : (nI i).toNatClampNeg = i := nI_clamp (by omega)
      have hcc : (isC (nI x0) && tHas (nI (kA g)) (nI i)) = true := by rw [c_4, c_12]; rfl
      obtain ⟨a12, a0, a1, a2⟩ := Vk_a hv hi
      have hb := shO_le hv hx hi
      have hf9 := FS_le g i x0
      have hr9 := FR_le g i x0
      have ho : rST g (nI x0) (nI i) = if FR g i x0 = 0 then 3212836864 else if shO g x0 i = 0 then FP.fconst1 else FP.fdiv (FP.i2f (nI (FS g i x0))) (FP.i2f (nI (shO g x0 i))) := by unfold rST; rw [if_pos hcc, ex, ei]
      refine zj_aload_n (pc := 18) C dX7_stretch_18 rfl ?_
      refine zq_callFn (pc := 19) (bs' := (mB G m g ga gh kn gk kp tx ln (izV g) (wyV g) wa (ttV g tt) (rrV g rr) we sp wr er)) C kv_X7_196 (m_X7_worksOutTotals hv) dX7_stretch_19 rfl rfl rfl rfl rfl rfl ⟨0, rfl⟩ rfl rfl ?_
      refine zj_aload_n (pc := 22) C dX7_stretch_22 rfl ?_
      refine zq_callFn (pc := 23) (bs' := (mB G m g ga gh kn gk kp tx ln (izV g) (wyV g) (dsF g 4) (ttV g tt) (rrV g rr) we sp wr er)) C kv_X7_221 (m_X7_worksOutAll hv) dX7_stretch_23 rfl rfl rfl rfl rfl rfl ⟨0, rfl⟩ rfl rfl ?_
      refine zj_aload_n (pc := 26) C dX7_stretch_26 rfl ?_
      refine zj_iload_n (pc := 27) C dX7_stretch_27 rfl ?_
      refine zj_iload_n (pc := 28) C dX7_stretch_28 rfl ?_
      refine zq_callP (pc := 29) C kv_X7_109 (m_X7_ruleForV (by omega) (by omega) (by omega)) dX7_stretch_29 rfl rfl rfl rfl rfl rfl ⟨0, rfl⟩ rfl rfl ?_
      refine zq_if_ne (pc := 32) 38 C dX7_stretch_32 (by decide) (by omega) (fun c_32 => ?_) (fun c_32 => ?_)
      · refine zj_aload_n (pc := 38) C dX7_stretch_38 rfl ?_
        refine zj_iload_n (pc := 39) C dX7_stretch_39 rfl ?_
        refine zj_iload_n (pc := 40) C dX7_stretch_40 rfl ?_
        refine zq_callP (pc := 41) C kv_X7_224 (m_X7_shortestOf hv (by omega) (by omega)) dX7_stretch_41 rfl rfl rfl rfl rfl rfl ⟨0, rfl⟩ rfl rfl ?_
        refine zj_istore_n (pc := 44) C dX7_stretch_44 (Nat.le_of_ble_eq_true rfl) ?_
        refine zj_iload_n (pc := 45) C dX7_stretch_45 rfl ?_
        refine zq_if_ne (pc := 46) 53 C dX7_stretch_46 (by decide) (by omega) (fun c_46 => ?_) (fun c_46 => ?_)
        · refine zj_aload_n (pc := 53) C dX7_stretch_53 rfl ?_
          refine zj_iload_n (pc := 54) C dX7_stretch_54 rfl ?_
          refine zj_iload_n (pc := 55) C dX7_stretch_55 rfl ?_
          refine zq_callP (pc := 56) C kv_X7_116 (m_X7_sumForV (by omega) (by omega) (by omega)) dX7_stretch_56 rfl rfl rfl rfl rfl rfl ⟨0, rfl⟩ rfl rfl ?_
          refine zj_i2f (pc := 59) C dX7_stretch_59 ?_
          refine zj_iload_n (pc := 60) C dX7_stretch_60 rfl ?_
          refine zj_i2f (pc := 61) C dX7_stretch_61 ?_
          refine zj_fdiv (pc := 62) C dX7_stretch_62 (fq_ok (by omega) (by omega) c_46) ?_
          refine zj_fret C hr hlocks dX7_stretch_63 ?_
          exact zQ_mf (by rw [ho, if_neg c_32, if_neg c_46])
        · refine zj_fconst1 (pc := 49) C dX7_stretch_49 ?_
          refine zj_goto (pc := 50) (tgt := 63) C dX7_stretch_50 (by decide) ?_
          refine zj_fret C hr hlocks dX7_stretch_63 ?_
          exact zQ_mf (by rw [ho, if_neg c_32, if_pos c_46])
      · refine zj_ldcf (pc := 35) (v := 3212836864) C dX7_stretch_35 aq_1133 ?_
        refine zj_fret C hr hlocks dX7_stretch_37 ?_
        exact zQ_mf (by rw [ho, if_pos c_32])
    · have ho : rST g x al = 3212836864 := by unfold rST; rw [if_neg (by simp [c_4, c_12])]
      refine zj_ldcf (pc := 15) (v := 3212836864) C dX7_stretch_15 aq_1133 ?_
      refine zj_fret C hr hlocks dX7_stretch_17 ?_
      exact zQ_mf ho.symm
set_option maxRecDepth 100000 in
set_option maxHeartbeats 4000000 in
theorem m_X7_pairs {l : Launch} {G : GG} {m : Nat → Nat} {g ga gh : Nat → Nat} {kn : Nat} {gk : Nat → Nat} {kp : Bool} {tx : Nat → Nat} {ln : Nat} {iz wy wa tt rr we : Nat → Nat} {sp : Nat} {wr : Bool} {er : Int32} {w : Nat} (hv : Vk g) (hw : w < 100) : zX l G yX7_pairs cX7_pairs 9 (some .int) 5 117 0 0 [.ref (m 0), .int (nI (w))] (mB G m g ga gh kn gk kp tx ln iz wy wa tt rr we sp wr er).flatten (zF (some (.int (nI (prN g w (14 * kA g))))) (mB G m g ga gh kn gk kp tx ln (izV g) (wyV g) (dsF g 4) (ttV g tt) (rrV g rr) we sp wr er).flatten) := by
  refine zj_startF RX7 (by decide +kernel) rfl rfl rfl (bs := (mB G m g ga gh kn gk kp tx ln iz wy wa tt rr we sp wr er)) rfl (lo := [some (.ref (m 0)), some (.int (nI (w))), none, none, none, none, none, none, none]) rfl ?_
  intro p0 e0 s0 m0 args0 below0 meth0 c0 A0 C hr hlocks
  have ha : kA g ≤ 12 := hv.2.1
  have hae : kA g = g 140 := rfl
  refine zj_aload_n (pc := 0) C dX7_pairs_0 rfl ?_
  refine zq_callFn (pc := 1) (bs' := (mB G m g ga gh kn gk kp tx ln (izV g) (wyV g) wa (ttV g tt) (rrV g rr) we sp wr er)) C kv_X7_196 (m_X7_worksOutTotals hv) dX7_pairs_1 rfl rfl rfl rfl rfl rfl ⟨0, rfl⟩ rfl rfl ?_
  refine zj_aload_n (pc := 4) C dX7_pairs_4 rfl ?_
  refine zq_callFn (pc := 5) (bs' := (mB G m g ga gh kn gk kp tx ln (izV g) (wyV g) (dsF g 4) (ttV g tt) (rrV g rr) we sp wr er)) C kv_X7_221 (m_X7_worksOutAll hv) dX7_pairs_5 rfl rfl rfl rfl rfl rfl ⟨0, rfl⟩ rfl rfl ?_
  refine zj_iconst (pc := 8) (v := nI 0) C dX7_pairs_8 (by decide) ?_
  refine zj_istore_n (pc := 9) C dX7_pairs_9 (Nat.le_of_ble_eq_true rfl) ?_
  refine zj_iconst (pc := 10) (v := nI 0) C dX7_pairs_10 (by decide) ?_
  refine zj_istore_n (pc := 11) C dX7_pairs_11 (Nat.le_of_ble_eq_true rfl) ?_
  refine zj_keep [true, true, true, true, false, false, false, false, false] ?_
  refine zq_loop1 (fun (k : Nat) => k ≤ 14 * kA g) (fun (k : Nat) => 14 * kA g - k) (fun (k : Nat) => (mB G m g ga gh kn gk kp tx ln (izV g) (wyV g) (dsF g 4) (ttV g tt) (rrV g rr) we sp wr er)) (fun (k : Nat) => [some (.ref (m 0)), some (.int (nI (w))), some (.int (nI (prN g w k))), some (.int (nI (k))), none, none, none, none, none]) ?_ 0 (Nat.zero_le _)
  intro k hI ih_12
  have hc : prN g w k ≤ k := cntB_le _ k
  refine zj_iload_n (pc := 12) C dX7_pairs_12 rfl ?_
  refine zj_bipush (pc := 13) (v := nI 14) C dX7_pairs_13 (by decide) ?_
  refine zj_aload_n (pc := 15) C dX7_pairs_15 rfl ?_
  refine gf_X7_0 (pc := 16) C dX7_pairs_16 0 rfl ?_
  refine zj_sipush (pc := 19) (v := nI 140) C dX7_pairs_19 (by decide) ?_
  refine zq_iald (pc := 22) C dX7_pairs_22 1 rfl (by omega) (by decide) ?_
  refine zq_imul (pc := 23) C dX7_pairs_23 ?_
  refine zq_icmp_ge (pc := 24) 175 C dX7_pairs_24 (by decide) (by omega) (by omega) (fun c_24 => ?_) (fun c_24 => ?_)
  · refine zj_iload_n (pc := 175) C dX7_pairs_175 rfl ?_
    exact zj_iretF C hr hlocks dX7_pairs_176 (by rw [show k = 14 * kA g by omega]) rfl
  · refine zj_iload_n (pc := 27) C dX7_pairs_27 rfl ?_
    refine zj_bipush (pc := 28) (v := nI 14) C dX7_pairs_28 (by decide) ?_
    refine zq_irem (pc := 30) C dX7_pairs_30 (by omega) (by decide) (by decide) ?_
    refine zj_istore (pc := 31) C dX7_pairs_31 (Nat.le_of_ble_eq_true rfl) ?_
    refine zj_iload_n (pc := 33) C dX7_pairs_33 rfl ?_
    refine zj_bipush (pc := 34) (v := nI 14) C dX7_pairs_34 (by decide) ?_
    refine zq_idiv (pc := 36) C dX7_pairs_36 (by omega) (by decide) (by decide) ?_
    refine zj_istore (pc := 37) C dX7_pairs_37 (Nat.le_of_ble_eq_true rfl) ?_
    have hr9 := FR_le g (k / 14) (k % 14)
    have hf9 := FS_le g (k / 14) (k % 14)
    have hs9 := shO_le hv (x := k % 14) (al := k / 14) (by omega) (by omega)
    have hb9 := bitS_lt (gdB g false (k % 14)) 4
    refine zj_aload_n (pc := 39) C dX7_pairs_39 rfl ?_
    refine zj_iload (pc := 40) C dX7_pairs_40 rfl ?_
    refine zj_iload (pc := 42) C dX7_pairs_42 rfl ?_
    refine zq_callP (pc := 44) C kv_X7_109 (m_X7_ruleForV (by omega) (by omega) (by omega)) dX7_pairs_44 rfl rfl rfl rfl rfl rfl ⟨0, rfl⟩ rfl rfl ?_
    refine zq_mrg 55 [] (bI (!(decide (FR g (k / 14) (k % 14) = 0)))) ?_ (fun kk => ?_)
    · refine zj_istore (pc := 55) C dX7_pairs_55 (Nat.le_of_ble_eq_true rfl) ?_
      refine zj_aload_n (pc := 57) C dX7_pairs_57 rfl ?_
      refine zj_iload (pc := 58) C dX7_pairs_58 rfl ?_
      refine zj_iload (pc := 60) C dX7_pairs_60 rfl ?_
      refine zq_callP (pc := 62) C kv_X7_224 (m_X7_shortestOf hv (by omega) (by omega)) dX7_pairs_62 rfl rfl rfl rfl rfl rfl ⟨0, rfl⟩ rfl rfl ?_
      refine zj_istore (pc := 65) C dX7_pairs_65 (Nat.le_of_ble_eq_true rfl) ?_
      refine zq_mrg 144 [] (bI (prI g w (k % 14) (k / 14))) ?_ (fun kk => ?_)
      · refine zj_istore (pc := 144) C dX7_pairs_144 (Nat.le_of_ble_eq_true rfl) ?_
        refine zj_iload_n (pc := 146) C dX7_pairs_146 rfl ?_
        refine zj_iload (pc := 147) C dX7_pairs_147 rfl ?_
        refine zj_ifb_eq (pc := 149) 166 C dX7_pairs_149 (by decide) (fun c_149 => ?_) (fun c_149 => ?_)
        · refine zj_iconst (pc := 166) (v := nI 0) C dX7_pairs_166 (by decide) ?_
          refine zq_iadd (pc := 167) C dX7_pairs_167 ?_
          refine zj_top (x' := nI (prN g w k)) rfl ?_
          refine zj_top (x' := nI (prN g w (k + 1))) (congrArg nI (cntB_f (p := fun k => prB g w (k % 14) (k / 14)) (by unfold prB; rw [c_149]; rfl)).symm) ?_
          refine zj_istore_n (pc := 168) C dX7_pairs_168 (Nat.le_of_ble_eq_true rfl) ?_
          refine zj_iinc (pc := 169) (v := nI (k + 1)) C dX7_pairs_169 rfl (nI_1 _) ?_
          refine zj_goto (pc := 172) (tgt := 12) C dX7_pairs_172 (by decide) ?_
          refine zj_keep [true, true, true, true, false, false, false, false, false] ?_
          exact ih_12 (k + 1) (by omega) (by omega)
        · refine zj_aload_n (pc := 152) C dX7_pairs_152 rfl ?_
          refine zj_iload (pc := 153) C dX7_pairs_153 rfl ?_
          refine zj_iconst (pc := 155) (v := nI 0) C dX7_pairs_155 (by decide) ?_
          refine zq_callF (pc := 156) (bs' := (mB G m g ga gh kn gk kp tx ln (izV g) (wyV g) (dsF g 4) (ttV g tt) (rrV g rr) we sp wr er)) C kv_X7_202 (m_X7_districtsOf (og := false) hv (by omega)) dX7_pairs_156 rfl rfl rfl rfl rfl rfl ⟨0, rfl⟩ rfl rfl ?_
          refine zq_if_eq (pc := 159) 166 C dX7_pairs_159 (by decide) (by omega) (fun c_159 => ?_) (fun c_159 => ?_)
          · refine zj_iconst (pc := 166) (v := nI 0) C dX7_pairs_166 (by decide) ?_
            refine zq_iadd (pc := 167) C dX7_pairs_167 ?_
            refine zj_top (x' := nI (prN g w k)) rfl ?_
            refine zj_top (x' := nI (prN g w (k + 1))) (congrArg nI (cntB_f (p := fun k => prB g w (k % 14) (k / 14)) (by unfold prB; rw [c_159]; simp)).symm) ?_
            refine zj_istore_n (pc := 168) C dX7_pairs_168 (Nat.le_of_ble_eq_true rfl) ?_
            refine zj_iinc (pc := 169) (v := nI (k + 1)) C dX7_pairs_169 rfl (nI_1 _) ?_
            refine zj_goto (pc := 172) (tgt := 12) C dX7_pairs_172 (by decide) ?_
            refine zj_keep [true, true, true, true, false, false, false, false, false] ?_
            exact ih_12 (k + 1) (by omega) (by omega)
          · refine zj_iconst (pc := 162) (v := nI 1) C dX7_pairs_162 (by decide) ?_
            refine zj_goto (pc := 163) (tgt := 167) C dX7_pairs_163 (by decide) ?_
            refine zq_iadd (pc := 167) C dX7_pairs_167 ?_
            refine zj_top (x' := nI (prN g w (k + 1))) (congrArg nI (cntB_t (p := fun k => prB g w (k % 14) (k / 14)) (by unfold prB; rw [c_149]; simp [c_159])).symm) ?_
            refine zj_istore_n (pc := 168) C dX7_pairs_168 (Nat.le_of_ble_eq_true rfl) ?_
            refine zj_iinc (pc := 169) (v := nI (k + 1)) C dX7_pairs_169 rfl (nI_1 _) ?_
            refine zj_goto (pc := 172) (tgt := 12) C dX7_pairs_172 (by decide) ?_
            refine zj_keep [true, true, true, true, false, false, false, false, false] ?_
            exact ih_12 (k + 1) (by omega) (by omega)
      · refine zj_iload_n (pc := 67) C dX7_pairs_67 rfl ?_
        refine zj_iconst (pc := 68) (v := nI 4) C dX7_pairs_68 (by decide) ?_
        refine zq_icmp_ne (pc := 69) 77 C dX7_pairs_69 (by decide) (by omega) (by omega) (fun c_69 => ?_) (fun c_69 => ?_)
        · refine zj_iload_n (pc := 77) C dX7_pairs_77 rfl ?_
          refine zj_iconst (pc := 78) (v := nI 5) C dX7_pairs_78 (by decide) ?_
          refine zq_icmp_ne (pc := 79) 95 C dX7_pairs_79 (by decide) (by omega) (by omega) (fun c_79 => ?_) (fun c_79 => ?_)
          · refine zj_iload_n (pc := 95) C dX7_pairs_95 rfl ?_
            refine zj_bipush (pc := 96) (v := nI 6) C dX7_pairs_96 (by decide) ?_
            refine zq_icmp_ne (pc := 98) 121 C dX7_pairs_98 (by decide) (by omega) (by omega) (fun c_98 => ?_) (fun c_98 => ?_)
            · refine zj_iload (pc := 121) C dX7_pairs_121 rfl ?_
              refine zj_ifb_eq (pc := 123) 143 C dX7_pairs_123 (by decide) (fun c_123 => ?_) (fun c_123 => ?_)
              · refine zj_iconst (pc := 143) (v := nI 0) C dX7_pairs_143 (by decide) ?_
                exact zj_top (x' := bI (prI g w (k % 14) (k / 14))) (zq_f (by unfold prI; rw [if_neg c_69, if_neg c_79, if_neg c_98, c_123]; rfl)) kk
              · refine zj_aload_n (pc := 126) C dX7_pairs_126 rfl ?_
                refine zj_iload (pc := 127) C dX7_pairs_127 rfl ?_
                refine zj_iload (pc := 129) C dX7_pairs_129 rfl ?_
                refine zq_callP (pc := 131) C kv_X7_116 (m_X7_sumForV (by omega) (by omega) (by omega)) dX7_pairs_131 rfl rfl rfl rfl rfl rfl ⟨0, rfl⟩ rfl rfl ?_
                refine zj_iload (pc := 134) C dX7_pairs_134 rfl ?_
                refine zq_icmp_le (pc := 136) 143 C dX7_pairs_136 (by decide) (by omega) (by omega) (fun c_136 => ?_) (fun c_136 => ?_)
                · refine zj_iconst (pc := 143) (v := nI 0) C dX7_pairs_143 (by decide) ?_
                  exact zj_top (x' := bI (prI g w (k % 14) (k / 14))) (zq_f (by unfold prI; rw [if_neg c_69, if_neg c_79, if_neg c_98, c_123, decide_eq_false (by omega)]; rfl)) kk
                · refine zj_iconst (pc := 139) (v := nI 1) C dX7_pairs_139 (by decide) ?_
                  refine zj_goto (pc := 140) (tgt := 144) C dX7_pairs_140 (by decide) ?_
                  exact zj_top (x' := bI (prI g w (k % 14) (k / 14))) (zq_t (by unfold prI; rw [if_neg c_69, if_neg c_79, if_neg c_98, c_123, decide_eq_true c_136]; rfl)) kk
            · refine zj_iload (pc := 101) C dX7_pairs_101 rfl ?_
              refine zj_ifb_ne (pc := 103) 117 C dX7_pairs_103 (by decide) (fun c_103 => ?_) (fun c_103 => ?_)
              · refine zj_iconst (pc := 117) (v := nI 0) C dX7_pairs_117 (by decide) ?_
                refine zj_goto (pc := 118) (tgt := 144) C dX7_pairs_118 (by decide) ?_
                exact zj_top (x' := bI (prI g w (k % 14) (k / 14))) (zq_f (by unfold prI; rw [if_neg c_69, if_neg c_79, if_pos c_98, c_103]; rfl)) kk
              · refine zj_iload (pc := 106) C dX7_pairs_106 rfl ?_
                refine zj_ldc (pc := 108) (v := nI 1000000) C dX7_pairs_108 aq_1022 ?_
                refine zq_icmp_ge (pc := 110) 117 C dX7_pairs_110 (by decide) (by omega) (by omega) (fun c_110 => ?_) (fun c_110 => ?_)
                · refine zj_iconst (pc := 117) (v := nI 0) C dX7_pairs_117 (by decide) ?_
                  refine zj_goto (pc := 118) (tgt := 144) C dX7_pairs_118 (by decide) ?_
                  exact zj_top (x' := bI (prI g w (k % 14) (k / 14))) (zq_f (by unfold prI; rw [if_neg c_69, if_neg c_79, if_pos c_98, c_103, decide_eq_false (by omega)]; rfl)) kk
                · refine zj_iconst (pc := 113) (v := nI 1) C dX7_pairs_113 (by decide) ?_
                  refine zj_goto (pc := 114) (tgt := 144) C dX7_pairs_114 (by decide) ?_
                  exact zj_top (x' := bI (prI g w (k % 14) (k / 14))) (zq_t (by unfold prI; rw [if_neg c_69, if_neg c_79, if_pos c_98, c_103, decide_eq_true c_110]; rfl)) kk
          · refine zj_iload (pc := 82) C dX7_pairs_82 rfl ?_
            refine zj_ifb_ne (pc := 84) 91 C dX7_pairs_84 (by decide) (fun c_84 => ?_) (fun c_84 => ?_)
            · refine zj_iconst (pc := 91) (v := nI 0) C dX7_pairs_91 (by decide) ?_
              refine zj_goto (pc := 92) (tgt := 144) C dX7_pairs_92 (by decide) ?_
              exact zj_top (x' := bI (prI g w (k % 14) (k / 14))) (zq_f (by unfold prI; rw [if_neg c_69, if_pos c_79, c_84]; rfl)) kk
            · refine zj_iconst (pc := 87) (v := nI 1) C dX7_pairs_87 (by decide) ?_
              refine zj_goto (pc := 88) (tgt := 144) C dX7_pairs_88 (by decide) ?_
              exact zj_top (x' := bI (prI g w (k % 14) (k / 14))) (zq_t (by unfold prI; rw [if_neg c_69, if_pos c_79, c_84]; rfl)) kk
        · refine zj_iload (pc := 72) C dX7_pairs_72 rfl ?_
          refine zj_goto (pc := 74) (tgt := 144) C dX7_pairs_74 (by decide) ?_
          exact zj_top (x' := bI (prI g w (k % 14) (k / 14))) (congrArg bI (if_pos c_69 : prI g w (k % 14) (k / 14) = _).symm) kk
    · refine zq_if_le (pc := 47) 54 C dX7_pairs_47 (by decide) (by omega) (fun c_47 => ?_) (fun c_47 => ?_)
      · refine zj_iconst (pc := 54) (v := nI 0) C dX7_pairs_54 (by decide) ?_
        exact zj_top (x' := bI (!(decide (FR g (k / 14) (k % 14) = 0)))) (zq_f (by first | rfl | (simp [c_47]; done) | (simp [c_47]; omega) | omega | (split <;> first | rfl | omega))) kk
      · refine zj_iconst (pc := 50) (v := nI 1) C dX7_pairs_50 (by decide) ?_
        refine zj_goto (pc := 51) (tgt := 55) C dX7_pairs_51 (by decide) ?_
        exact zj_top (x' := bI (!(decide (FR g (k / 14) (k % 14) = 0)))) (zq_t (by first | rfl | (simp [c_47]; done) | (simp [c_47]; omega) | omega | (split <;> first | rfl | omega))) kk
set_option maxRecDepth 100000 in
set_option maxHeartbeats 4000000 in
theorem m_X7_count {l : Launch} {G : GG} {m : Nat → Nat} {g ga gh : Nat → Nat} {kn : Nat} {gk : Nat → Nat} {kp : Bool} {tx : Nat → Nat} {ln : Nat} {iz wy wa tt rr we : Nat → Nat} {sp : Nat} {wr : Bool} {er : Int32} {w : Int32} (hv : Vk g) : zX l G yX7_count cX7_count 2 (some .int) 6 145 0 0 [.ref (m 0), .int (w)] (mB G m g ga gh kn gk kp tx ln iz wy wa tt rr we sp wr er).flatten (zQ (some (.int (rCT g kn ln w))) G m g ga gh kn gk kp tx ln sp wr er) := by
  refine zj_startF RX7 (by decide +kernel) rfl rfl rfl (bs := (mB G m g ga gh kn gk kp tx ln iz wy wa tt rr we sp wr er)) rfl (lo := [some (.ref (m 0)), some (.int (w))]) rfl ?_
  intro p0 e0 s0 m0 args0 below0 meth0 c0 A0 C hr hlocks
  have hk : kL g ≤ 25 := hv.1
  have hke : kL g = g 14 := rfl
  have ha : kA g ≤ 12 := hv.2.1
  have hae : kA g = g 140 := rfl
  refine zj_iload_n (pc := 0) C dX7_count_0 rfl ?_
  rcases sw_9 w with rfl | rfl | rfl | rfl | rfl | rfl | rfl | rfl | rfl | rfl | h99
  · have ho : rCT g kn ln 0 = nI (kL g) := by unfold rCT; rw [if_pos rfl]
    refine zj_tableIn (pc := 1) 56 C dX7_count_1 (by decide) (by decide) rfl (by decide) ?_
    refine zj_aload_n (pc := 56) C dX7_count_56 rfl ?_
    refine gf_X7_0 (pc := 57) C dX7_count_57 0 rfl ?_
    refine zj_bipush (pc := 60) (v := nI 14) C dX7_count_60 (by decide) ?_
    refine zq_iald (pc := 62) C dX7_count_62 1 rfl (by omega) (by decide) ?_
    refine zj_iret C hr hlocks dX7_count_63 ?_
    exact zQ_mk ho.symm
  · have ho : rCT g kn ln 1 = nI (cntB (told g) (kL g)) := by unfold rCT; rw [if_neg (by decide), if_pos rfl]
    refine zj_tableIn (pc := 1) 64 C dX7_count_1 (by decide) (by decide) rfl (by decide) ?_
    refine zj_aload_n (pc := 64) C dX7_count_64 rfl ?_
    refine zq_callP (pc := 65) C kv_X7_143 (m_X7_toldLanes hv) dX7_count_65 rfl rfl rfl rfl rfl rfl ⟨0, rfl⟩ rfl rfl ?_
    refine zj_iret C hr hlocks dX7_count_68 ?_
    exact zQ_mk ho.symm
  · have ho : rCT g kn ln 2 = nI (kA g) := by unfold rCT; rw [if_neg (by decide), if_neg (by decide), if_pos rfl]
    refine zj_tableIn (pc := 1) 69 C dX7_count_1 (by decide) (by decide) rfl (by decide) ?_
    refine zj_aload_n (pc := 69) C dX7_count_69 rfl ?_
    refine gf_X7_0 (pc := 70) C dX7_count_70 0 rfl ?_
    refine zj_sipush (pc := 73) (v := nI 140) C dX7_count_73 (by decide) ?_
    refine zq_iald (pc := 76) C dX7_count_76 1 rfl (by omega) (by decide) ?_
    refine zj_iret C hr hlocks dX7_count_77 ?_
    exact zQ_mk ho.symm
  · have ho : rCT g kn ln 3 = nI (cntB (fun x => !(bitS (gdB g true x) 4 == 0)) 14) := by unfold rCT; rw [if_neg (by decide), if_neg (by decide), if_neg (by decide), if_pos rfl]
    refine zj_tableIn (pc := 1) 78 C dX7_count_1 (by decide) (by decide) rfl (by decide) ?_
    refine zj_aload_n (pc := 78) C dX7_count_78 rfl ?_
    refine zq_callF (pc := 79) (bs' := (mB G m g ga gh kn gk kp tx ln (izV g) wy wa tt rr we sp wr er)) C kv_X7_228 (m_X7_gates hv) dX7_count_79 rfl rfl rfl rfl rfl rfl ⟨0, rfl⟩ rfl rfl ?_
    refine zj_iret C hr hlocks dX7_count_82 ?_
    exact zQ_mk ho.symm
  · have ho : rCT g kn ln 4 = nI (prN g 4 (14 * kA g)) := by unfold rCT; rw [if_neg (by decide), if_neg (by decide), if_neg (by decide), if_neg (by decide), if_pos rfl]
    refine zj_tableIn (pc := 1) 83 C dX7_count_1 (by decide) (by decide) rfl (by decide) ?_
    refine zj_loc (lo' := [some (.ref (m 0)), some (.int (nI 4))]) rfl ?_
    refine zj_aload_n (pc := 83) C dX7_count_83 rfl ?_
    refine zj_iload_n (pc := 84) C dX7_count_84 rfl ?_
    refine zq_callF (pc := 85) (bs' := (mB G m g ga gh kn gk kp tx ln (izV g) (wyV g) (dsF g 4) (ttV g tt) (rrV g rr) we sp wr er)) C kv_X7_231 (m_X7_pairs hv (by omega)) dX7_count_85 rfl rfl rfl rfl rfl rfl ⟨0, rfl⟩ rfl rfl ?_
    refine zj_iret C hr hlocks dX7_count_88 ?_
    exact zQ_mk ho.symm
  · have ho : rCT g kn ln 5 = nI (prN g 5 (14 * kA g)) := by unfold rCT; rw [if_neg (by decide), if_neg (by decide), if_neg (by decide), if_neg (by decide), if_neg (by decide), if_pos rfl]
    refine zj_tableIn (pc := 1) 83 C dX7_count_1 (by decide) (by decide) rfl (by decide) ?_
    refine zj_loc (lo' := [some (.ref (m 0)), some (.int (nI 5))]) rfl ?_
    refine zj_aload_n (pc := 83) C dX7_count_83 rfl ?_
    refine zj_iload_n (pc := 84) C dX7_count_84 rfl ?_
    refine zq_callF (pc := 85) (bs' := (mB G m g ga gh kn gk kp tx ln (izV g) (wyV g) (dsF g 4) (ttV g tt) (rrV g rr) we sp wr er)) C kv_X7_231 (m_X7_pairs hv (by omega)) dX7_count_85 rfl rfl rfl rfl rfl rfl ⟨0, rfl⟩ rfl rfl ?_
    refine zj_iret C hr hlocks dX7_count_88 ?_
    exact zQ_mk ho.symm
  · have ho : rCT g kn ln 6 = nI (prN g 6 (14 * kA g)) := by unfold rCT; rw [if_neg (by decide), if_neg (by decide), if_neg (by decide), if_neg (by decide), if_neg (by decide), if_neg (by decide), if_pos rfl]
    refine zj_tableIn (pc := 1) 83 C dX7_count_1 (by decide) (by decide) rfl (by decide) ?_
    refine zj_loc (lo' := [some (.ref (m 0)), some (.int (nI 6))]) rfl ?_
    refine zj_aload_n (pc := 83) C dX7_count_83 rfl ?_
    refine zj_iload_n (pc := 84) C dX7_count_84 rfl ?_
    refine zq_callF (pc := 85) (bs' := (mB G m g ga gh kn gk kp tx ln (izV g) (wyV g) (dsF g 4) (ttV g tt) (rrV g rr) we sp wr er)) C kv_X7_231 (m_X7_pairs hv (by omega)) dX7_count_85 rfl rfl rfl rfl rfl rfl ⟨0, rfl⟩ rfl rfl ?_
    refine zj_iret C hr hlocks dX7_count_88 ?_
    exact zQ_mk ho.symm
  · have ho : rCT g kn ln 7 = nI (prN g 7 (14 * kA g)) := by unfold rCT; rw [if_neg (by decide), if_neg (by decide), if_neg (by decide), if_neg (by decide), if_neg (by decide), if_neg (by decide), if_neg (by decide), if_pos rfl]
    refine zj_tableIn (pc := 1) 83 C dX7_count_1 (by decide) (by decide) rfl (by decide) ?_
    refine zj_loc (lo' := [some (.ref (m 0)), some (.int (nI 7))]) rfl ?_
    refine zj_aload_n (pc := 83) C dX7_count_83 rfl ?_
    refine zj_iload_n (pc := 84) C dX7_count_84 rfl ?_
    refine zq_callF (pc := 85) (bs' := (mB G m g ga gh kn gk kp tx ln (izV g) (wyV g) (dsF g 4) (ttV g tt) (rrV g rr) we sp wr er)) C kv_X7_231 (m_X7_pairs hv (by omega)) dX7_count_85 rfl rfl rfl rfl rfl rfl ⟨0, rfl⟩ rfl rfl ?_
    refine zj_iret C hr hlocks dX7_count_88 ?_
    exact zQ_mk ho.symm
  · have ho : rCT g kn ln 8 = nI kn := by unfold rCT; rw [if_neg (by decide), if_neg (by decide), if_neg (by decide), if_neg (by decide), if_neg (by decide), if_neg (by decide), if_neg (by decide), if_neg (by decide), if_pos rfl]
    refine zj_tableIn (pc := 1) 89 C dX7_count_1 (by decide) (by decide) rfl (by decide) ?_
    refine zj_aload_n (pc := 89) C dX7_count_89 rfl ?_
    refine gf_X7_3 (pc := 90) C dX7_count_90 0 rfl ?_
    refine zj_iret C hr hlocks dX7_count_93 ?_
    exact zQ_mk ho.symm
  · have ho : rCT g kn ln 9 = nI ln := by unfold rCT; rw [if_neg (by decide), if_neg (by decide), if_neg (by decide), if_neg (by decide), if_neg (by decide), if_neg (by decide), if_neg (by decide), if_neg (by decide), if_neg (by decide), if_pos rfl]
    refine zj_tableIn (pc := 1) 94 C dX7_count_1 (by decide) (by decide) rfl (by decide) ?_
    refine zj_aload_n (pc := 94) C dX7_count_94 rfl ?_
    refine gf_X7_7 (pc := 95) C dX7_count_95 0 rfl ?_
    refine zj_iret C hr hlocks dX7_count_98 ?_
    exact zQ_mk ho.symm
  · have ho : rCT g kn ln w = -2 := by
      unfold rCT
      rw [if_neg (sw_out h99 (by decide) (by decide)), if_neg (sw_out h99 (by decide) (by decide)), if_neg (sw_out h99 (by decide) (by decide)), if_neg (sw_out h99 (by decide) (by decide)), if_neg (sw_out h99 (by decide) (by decide)), if_neg (sw_out h99 (by decide) (by decide)), if_neg (sw_out h99 (by decide) (by decide)), if_neg (sw_out h99 (by decide) (by decide)), if_neg (sw_out h99 (by decide) (by decide)), if_neg (sw_out h99 (by decide) (by decide))]
    refine zj_tableOut (pc := 1) 99 C dX7_count_1 h99 (by decide) ?_
    refine zj_bipush (pc := 99) (v := (-2)) C dX7_count_99 (by decide) ?_
    refine zj_iret C hr hlocks dX7_count_101 ?_
    exact zQ_mk ho.symm
set_option maxRecDepth 100000 in
set_option maxHeartbeats 4000000 in
theorem m_X7_walk {l : Launch} {G : GG} {m : Nat → Nat} {g ga gh : Nat → Nat} {kn : Nat} {gk : Nat → Nat} {kp : Bool} {tx : Nat → Nat} {ln : Nat} {iz wy wa tt rr we : Nat → Nat} {sp : Nat} {wr : Bool} {er : Int32} {x al w : Int32} (hv : Vk g) : zX l G yX7_walk cX7_walk 9 (some .int) 5 124 0 0 [.ref (m 0), .int (x), .int (al), .int (w)] (mB G m g ga gh kn gk kp tx ln iz wy wa tt rr we sp wr er).flatten (zQ (some (.int (rWK g x al w))) G m g ga gh kn gk kp tx ln sp wr er) := by
  refine zj_startF RX7 (by decide +kernel) rfl rfl rfl (bs := (mB G m g ga gh kn gk kp tx ln iz wy wa tt rr we sp wr er)) rfl (lo := [some (.ref (m 0)), some (.int (x)), some (.int (al)), some (.int (w)), none, none, none, none, none]) rfl ?_
  intro p0 e0 s0 m0 args0 below0 meth0 c0 A0 C hr hlocks
  have hk : kL g ≤ 25 := hv.1
  have hke : kL g = g 14 := rfl
  have ha : kA g ≤ 12 := hv.2.1
  have hae : kA g = g 140 := rfl
  refine zj_iload_n (pc := 0) C dX7_walk_0 rfl ?_
  refine zj_callSF (pc := 1) C kv_X7_125 (m_X7_isCrossing) dX7_walk_1 rfl rfl rfl rfl rfl rfl ?_
  refine zj_ifb_eq (pc := 4) 15 C dX7_walk_4 (by decide) (fun c_4 => ?_) (fun c_4 => ?_)
  · have ho : rWK g x al w = -1 := by unfold rWK; rw [if_neg (by simp [c_4])]
    refine zj_iconst (pc := 15) (v := (-1)) C dX7_walk_15 (by decide) ?_
    refine zj_iret C hr hlocks dX7_walk_16 ?_
    exact zQ_mk ho.symm
  · refine zj_aload_n (pc := 7) C dX7_walk_7 rfl ?_
    refine zj_iload_n (pc := 8) C dX7_walk_8 rfl ?_
    refine zq_callP (pc := 9) C kv_X7_154 (m_X7_isAlley hv) dX7_walk_9 rfl rfl rfl rfl rfl rfl ⟨0, rfl⟩ rfl rfl ?_
    refine zj_ifb_ne (pc := 12) 17 C dX7_walk_12 (by decide) (fun c_12 => ?_) (fun c_12 => ?_)
    · obtain ⟨x0, hx, rfl⟩ := isC_n c_4
      obtain ⟨i, hi, rfl⟩ := tHas_s (by omega) c_12
      have ex : (nI x0).toNatClampNeg = x0 := nI_clamp (by omega)
      have ei : (nI i).toNatClampNeg = i := nI_clamp (by omega)
      have hcc : (isC (nI x0) && tHas (nI (kA g)) (nI i)) = true := by rw [c_4, c_12]; rfl
      obtain ⟨a12, a0, a1, a2⟩ := Vk_a hv hi
      refine zj_iload_n (pc := 17) C dX7_walk_17 rfl ?_
      refine zj_iconst (pc := 18) (v := nI 0) C dX7_walk_18 (by decide) ?_
      refine zj_iconst (pc := 19) (v := nI 2) C dX7_walk_19 (by decide) ?_
      refine zj_callSF (pc := 20) C kv_X7_43 (m_X7_in) dX7_walk_20 rfl rfl rfl rfl rfl rfl ?_
      refine zj_ifb_ne (pc := 23) 29 C dX7_walk_23 (by decide) (fun c_23 => ?_) (fun c_23 => ?_)
      · have hr2 : ¬ w < 0 ∧ ¬ 2 < w := by have h2 := c_23; unfold inB at h2; simp at h2; exact ⟨Int32.not_lt.mpr h2.1, Int32.not_lt.mpr h2.2⟩
        have hnor : ¬ (w < 0 ∨ 2 < w) := fun h => h.elim hr2.1 hr2.2
        have hr1 := hr2.1
        have hr3 := hr2.2
        obtain ⟨w0, hw0, rfl⟩ := nI_of2 (x := w) (M := 2) (n := 2) rfl hr1 (Int32.not_lt.mp hr3)
        have ew : (nI w0).toNatClampNeg = w0 := nI_clamp (by omega)
        have ha9 : rWK g (nI x0) (nI i) (nI w0) = rWx g x0 i (nI w0) := by unfold rWK; rw [if_pos hcc, if_neg hnor, ex, ei]
        refine zj_aload_n (pc := 29) C dX7_walk_29 rfl ?_
        refine zq_callFn (pc := 30) (bs' := (mB G m g ga gh kn gk kp tx ln (izV g) (wyV g) wa (ttV g tt) (rrV g rr) we sp wr er)) C kv_X7_196 (m_X7_worksOutTotals hv) dX7_walk_30 rfl rfl rfl rfl rfl rfl ⟨0, rfl⟩ rfl rfl ?_
        refine zj_iload_n (pc := 33) C dX7_walk_33 rfl ?_
        refine zj_istore (pc := 34) C dX7_walk_34 (Nat.le_of_ble_eq_true rfl) ?_
        refine zj_iconst (pc := 36) (v := nI 0) C dX7_walk_36 (by decide) ?_
        refine zj_istore (pc := 37) C dX7_walk_37 (Nat.le_of_ble_eq_true rfl) ?_
        refine zj_aload_n (pc := 39) C dX7_walk_39 rfl ?_
        refine zj_iload_n (pc := 40) C dX7_walk_40 rfl ?_
        refine zj_iconst (pc := 41) (v := nI 1) C dX7_walk_41 (by decide) ?_
        refine zq_callP (pc := 42) C kv_X7_79 (m_X7_ofAlley (by omega) (by decide)) dX7_walk_42 rfl rfl rfl rfl rfl rfl ⟨0, rfl⟩ rfl rfl ?_
        refine zj_istore (pc := 45) C dX7_walk_45 (Nat.le_of_ble_eq_true rfl) ?_
        refine zj_iconst (pc := 47) (v := nI 1) C dX7_walk_47 (by decide) ?_
        refine zj_iload (pc := 48) C dX7_walk_48 rfl ?_
        refine zq_shl1 (pc := 50) C dX7_walk_50 (by omega) ?_
        refine zj_istore (pc := 51) C dX7_walk_51 (Nat.le_of_ble_eq_true rfl) ?_
        refine zj_loc (lo' := [some (.ref (m 0)), some (.int (nI x0)), some (.int (nI i)), some (.int (nI w0)), some (.int (optI (some x0))), some (.int (nI 0)), some (.int (nI (alC g i 1))), some (.int (nI (2 ^ x0))), none]) rfl ?_
        refine zj_keep [true, true, true, true, true, true, true, true, false] ?_
        refine zq_loop4 (fun (o : Option Nat) (k : Nat) (sm : Nat) (ps : Nat) => rwN g i 31 x0 (alC g i 1) (2 ^ x0) = rwO g i o (31 - k) sm ps ∧ k ≤ 31 ∧ (∀ x, o = some x → x < 14) ∧ sm ≤ 20 + 1000000 * k) (fun (o : Option Nat) (k : Nat) (sm : Nat) (ps : Nat) => 31 - k) (fun (o : Option Nat) (k : Nat) (sm : Nat) (ps : Nat) => (mB G m g ga gh kn gk kp tx ln (izV g) (wyV g) wa (ttV g tt) (rrV g rr) we sp wr er)) (fun (o : Option Nat) (k : Nat) (sm : Nat) (ps : Nat) => [some (.ref (m 0)), some (.int (nI (x0))), some (.int (nI (i))), some (.int (nI (w0))), some (.int (optI o)), some (.int (nI (k))), some (.int (nI (sm))), some (.int (nI (ps))), none]) ?_ (some x0) 0 (alC g i 1) (2 ^ x0) ⟨rfl, by decide, fun x h => by cases h; exact hx, by omega⟩
        intro o k sm ps hI ih_53
        obtain ⟨h1, h2, h3, h4⟩ := hI
        refine zj_iload (pc := 53) C dX7_walk_53 rfl ?_
        refine zj_bipush (pc := 55) (v := (-5)) C dX7_walk_55 (by decide) ?_
        refine zj_icmp_eq (pc := 57) 156 C dX7_walk_57 (by decide) (fun c_57 => ?_) (fun c_57 => ?_)
        · refine zj_iload (pc := 156) C dX7_walk_156 rfl ?_
          refine zj_bipush (pc := 158) (v := (-5)) C dX7_walk_158 (by decide) ?_
          refine zj_icmp_eq (pc := 160) 170 C dX7_walk_160 (by decide) (fun c_160 => ?_) (fun c_160 => absurd c_57 c_160)
          refine zj_bipush (pc := 170) (v := (-5)) C dX7_walk_170 (by decide) ?_
          refine zj_iret C hr hlocks dX7_walk_172 ?_
          have ho2 : o = none := by cases o with | none => rfl | some x9 => exact absurd c_57 (nI_ne5 (by have := h3 x9 rfl; omega))
          exact zQ_mk (by rw [ha9]; unfold rWx; rw [h1, ho2]; rfl)
        · obtain ⟨x9, rfl⟩ : ∃ x9, o = some x9 := by cases o with | none => exact absurd rfl c_57 | some x9 => exact ⟨x9, rfl⟩
          have hx9 : x9 < 14 := h3 x9 rfl
          refine zj_loc (lo' := [some (.ref (m 0)), some (.int (nI x0)), some (.int (nI i)), some (.int (nI w0)), some (.int (nI x9)), some (.int (nI k)), some (.int (nI sm)), some (.int (nI ps)), none]) rfl ?_
          have hr9 := FR_le g i x9
          have hs9 := sfN_lt hv (x := x9) (al := i) (kL g)
          refine zj_iload (pc := 60) C dX7_walk_60 rfl ?_
          refine zj_bipush (pc := 62) (v := nI 30) C dX7_walk_62 (by decide) ?_
          refine zq_icmp_gt (pc := 64) 156 C dX7_walk_64 (by decide) (by omega) (by omega) (fun c_64 => ?_) (fun c_64 => ?_)
          · refine zj_iload (pc := 156) C dX7_walk_156 rfl ?_
            refine zj_bipush (pc := 158) (v := (-5)) C dX7_walk_158 (by decide) ?_
            refine zj_icmp_eq (pc := 160) 170 C dX7_walk_160 (by decide) (fun c_160 => absurd c_160 (nI_ne5 (by omega))) (fun c_160 => ?_)
            refine zj_iload (pc := 163) C dX7_walk_163 rfl ?_
            refine zj_bipush (pc := 165) (v := nI 30) C dX7_walk_165 (by decide) ?_
            refine zq_icmp_le (pc := 167) 173 C dX7_walk_167 (by decide) (by omega) (by omega) (fun c_167 => absurd c_167 (by omega)) (fun c_167 => ?_)
            refine zj_bipush (pc := 170) (v := (-5)) C dX7_walk_170 (by decide) ?_
            refine zj_iret C hr hlocks dX7_walk_172 ?_
            exact zQ_mk (by rw [ha9]; unfold rWx; rw [h1, show 31 - k = 0 by omega]; rfl)
          · refine zj_iload (pc := 67) C dX7_walk_67 rfl ?_
            refine zj_aload_n (pc := 69) C dX7_walk_69 rfl ?_
            refine zj_iload_n (pc := 70) C dX7_walk_70 rfl ?_
            refine zj_iconst (pc := 71) (v := nI 0) C dX7_walk_71 (by decide) ?_
            refine zq_callP (pc := 72) C kv_X7_79 (m_X7_ofAlley (by omega) (by decide)) dX7_walk_72 rfl rfl rfl rfl rfl rfl ⟨0, rfl⟩ rfl rfl ?_
            refine zq_icmp_ne (pc := 75) 89 C dX7_walk_75 (by decide) (by omega) (by omega) (fun c_75 => ?_) (fun c_75 => ?_)
            · refine zj_aload_n (pc := 89) C dX7_walk_89 rfl ?_
              refine zj_iload (pc := 90) C dX7_walk_90 rfl ?_
              refine zj_iload_n (pc := 92) C dX7_walk_92 rfl ?_
              refine zq_callP (pc := 93) C kv_X7_212 (m_X7_stepsFrom hv (by omega) (by omega)) dX7_walk_93 rfl rfl rfl rfl rfl rfl ⟨0, rfl⟩ rfl rfl ?_
              refine zj_callSF (pc := 96) C kv_X7_215 (m_X7_lowestOf (by omega)) dX7_walk_96 rfl rfl rfl rfl rfl rfl ?_
              refine zj_istore (pc := 99) C dX7_walk_99 (Nat.le_of_ble_eq_true rfl) ?_
              refine zj_iload (pc := 101) C dX7_walk_101 rfl ?_
              refine zq_mrg 123 [.int (nI (sm))] (nI (nxS g x9 i (lwG (sfN g x9 i (kL g)) 14))) ?_ (fun kk => ?_)
              · refine zq_iadd (pc := 123) C dX7_walk_123 ?_
                refine zj_istore (pc := 124) C dX7_walk_124 (Nat.le_of_ble_eq_true rfl) ?_
                refine zj_iload (pc := 126) C dX7_walk_126 rfl ?_
                refine zq_mrg 143 [.int (nI (ps))] (nI (nxP (lwG (sfN g x9 i (kL g)) 14))) ?_ (fun kk => ?_)
                · refine zq_ior (pc := 143) C dX7_walk_143 ?_
                  refine zj_istore (pc := 144) C dX7_walk_144 (Nat.le_of_ble_eq_true rfl) ?_
                  refine zj_iinc (pc := 146) (v := nI (k + 1)) C dX7_walk_146 rfl (nI_1 _) ?_
                  refine zj_iload (pc := 149) C dX7_walk_149 rfl ?_
                  refine zj_istore (pc := 151) C dX7_walk_151 (Nat.le_of_ble_eq_true rfl) ?_
                  refine zj_goto (pc := 153) (tgt := 53) C dX7_walk_153 (by decide) ?_
                  refine zj_keep [true, true, true, true, true, true, true, true, false] ?_
                  exact ih_53 (lwG (sfN g x9 i (kL g)) 14) (k + 1) (sm + nxS g x9 i (lwG (sfN g x9 i (kL g)) 14)) (ps ||| nxP (lwG (sfN g x9 i (kL g)) 14)) ⟨by rw [h1]; show rwN g i (31 - k) x9 sm ps = _; rw [show 31 - k = (31 - (k + 1)) + 1 by omega, rwN_s (by unfold arR; rw [decide_eq_false c_75]; rfl)], by omega, fun x h => lwG_lt _ _ _ h, by have := nxS_le g x9 i (lwG (sfN g x9 i (kL g)) 14); omega⟩ (by omega)
                · refine zj_iload (pc := 128) C dX7_walk_128 rfl ?_
                  refine zj_bipush (pc := 130) (v := (-5)) C dX7_walk_130 (by decide) ?_
                  refine zj_icmp_ne (pc := 132) 139 C dX7_walk_132 (by decide) (fun c_132 => ?_) (fun c_132 => ?_)
                  · obtain ⟨nx, hnx⟩ : ∃ nx, lwG (sfN g x9 i (kL g)) 14 = some nx := by cases h : lwG (sfN g x9 i (kL g)) 14 with | none => exact absurd ((optI_5 (fun j h => Nat.lt_trans (lwG_lt _ _ _ h) (by decide))).mpr h) c_132 | some nx => exact ⟨nx, rfl⟩
                    have hnx14 := lwG_lt _ _ _ hnx
                    refine zj_iconst (pc := 139) (v := nI 1) C dX7_walk_139 (by decide) ?_
                    refine zj_iload (pc := 140) C dX7_walk_140 rfl ?_
                    refine zj_top (x' := nI nx) (by rw [hnx]; rfl) ?_
                    refine zq_shl1 (pc := 142) C dX7_walk_142 (by omega) ?_
                    exact zj_top (x' := nI (nxP (lwG (sfN g x9 i (kL g)) 14))) (congrArg nI (by rw [hnx]; rfl)) kk
                  · refine zj_iconst (pc := 135) (v := nI 0) C dX7_walk_135 (by decide) ?_
                    refine zj_goto (pc := 136) (tgt := 143) C dX7_walk_136 (by decide) ?_
                    exact zj_top (x' := nI (nxP (lwG (sfN g x9 i (kL g)) 14))) (congrArg nI (by rw [(optI_5 (fun j h => Nat.lt_trans (lwG_lt _ _ _ h) (by decide))).mp c_132]; rfl)) kk
              · refine zj_iload (pc := 103) C dX7_walk_103 rfl ?_
                refine zj_bipush (pc := 105) (v := (-5)) C dX7_walk_105 (by decide) ?_
                refine zj_icmp_ne (pc := 107) 114 C dX7_walk_107 (by decide) (fun c_107 => ?_) (fun c_107 => ?_)
                · obtain ⟨nx, hnx⟩ : ∃ nx, lwG (sfN g x9 i (kL g)) 14 = some nx := by cases h : lwG (sfN g x9 i (kL g)) 14 with | none => exact absurd ((optI_5 (fun j h => Nat.lt_trans (lwG_lt _ _ _ h) (by decide))).mpr h) c_107 | some nx => exact ⟨nx, rfl⟩
                  have hnx14 := lwG_lt _ _ _ hnx
                  refine zj_aload_n (pc := 114) C dX7_walk_114 rfl ?_
                  refine zj_iload (pc := 115) C dX7_walk_115 rfl ?_
                  refine zj_iload (pc := 117) C dX7_walk_117 rfl ?_
                  refine zj_top (x' := nI nx) (by rw [hnx]; rfl) ?_
                  refine zj_iload_n (pc := 119) C dX7_walk_119 rfl ?_
                  refine zq_callP (pc := 120) C kv_X7_218 (m_X7_shortestStep hv (by omega) (by omega) (by omega)) dX7_walk_120 rfl rfl rfl rfl rfl rfl ⟨0, rfl⟩ rfl rfl ?_
                  exact zj_top (x' := nI (nxS g x9 i (lwG (sfN g x9 i (kL g)) 14))) (congrArg nI (by rw [hnx]; rfl)) kk
                · refine zj_iconst (pc := 110) (v := nI 0) C dX7_walk_110 (by decide) ?_
                  refine zj_goto (pc := 111) (tgt := 123) C dX7_walk_111 (by decide) ?_
                  exact zj_top (x' := nI (nxS g x9 i (lwG (sfN g x9 i (kL g)) 14))) (congrArg nI (by rw [(optI_5 (fun j h => Nat.lt_trans (lwG_lt _ _ _ h) (by decide))).mp c_107]; rfl)) kk
            · refine zj_aload_n (pc := 78) C dX7_walk_78 rfl ?_
              refine zj_iload (pc := 79) C dX7_walk_79 rfl ?_
              refine zj_iload_n (pc := 81) C dX7_walk_81 rfl ?_
              refine zq_callP (pc := 82) C kv_X7_109 (m_X7_ruleForV (by omega) (by omega) (by omega)) dX7_walk_82 rfl rfl rfl rfl rfl rfl ⟨0, rfl⟩ rfl rfl ?_
              refine zj_iconst (pc := 85) (v := nI 1) C dX7_walk_85 (by decide) ?_
              refine zq_icmp_eq (pc := 86) 156 C dX7_walk_86 (by decide) (by omega) (by omega) (fun c_86 => ?_) (fun c_86 => ?_)
              · refine zj_iload (pc := 156) C dX7_walk_156 rfl ?_
                refine zj_bipush (pc := 158) (v := (-5)) C dX7_walk_158 (by decide) ?_
                refine zj_icmp_eq (pc := 160) 170 C dX7_walk_160 (by decide) (fun c_160 => absurd c_160 (nI_ne5 (by omega))) (fun c_160 => ?_)
                refine zj_iload (pc := 163) C dX7_walk_163 rfl ?_
                refine zj_bipush (pc := 165) (v := nI 30) C dX7_walk_165 (by decide) ?_
                refine zq_icmp_le (pc := 167) 173 C dX7_walk_167 (by decide) (by omega) (by omega) (fun c_167 => ?_) (fun c_167 => absurd c_167 (by omega))
                refine zj_iload_n (pc := 173) C dX7_walk_173 rfl ?_
                refine zq_if_ne (pc := 174) 182 C dX7_walk_174 (by decide) (by omega) (fun c_174 => ?_) (fun c_174 => ?_)
                · refine zj_iload_n (pc := 182) C dX7_walk_182 rfl ?_
                  refine zj_iconst (pc := 183) (v := nI 1) C dX7_walk_183 (by decide) ?_
                  refine zq_icmp_ne (pc := 184) 192 C dX7_walk_184 (by decide) (by omega) (by omega) (fun c_184 => ?_) (fun c_184 => ?_)
                  · refine zj_iload (pc := 192) C dX7_walk_192 rfl ?_
                    refine zj_iret C hr hlocks dX7_walk_194 ?_
                    exact zQ_mk (by rw [ha9]; unfold rWx; rw [h1]; show _ = (match rwN g i (31 - k) x9 sm ps with | none => -5 | some (a, b, c) => if nI w0 = 0 then nI a else if nI w0 = 1 then nI b else nI c); rw [show 31 - k = (30 - k) + 1 by omega, rwN_a (by unfold arR; rw [decide_eq_true c_75, decide_eq_true c_86]; rfl), show 30 - (30 - k) = k by omega]; exact ((if_neg (fun h => by have := (nI_eq (a := w0) (b := 0) (by omega) (by decide)).mp h; omega)).trans (if_neg (fun h => by have := (nI_eq (a := w0) (b := 1) (by omega) (by decide)).mp h; omega))).symm)
                  · refine zj_iload (pc := 187) C dX7_walk_187 rfl ?_
                    refine zj_goto (pc := 189) (tgt := 194) C dX7_walk_189 (by decide) ?_
                    refine zj_iret C hr hlocks dX7_walk_194 ?_
                    exact zQ_mk (by rw [ha9]; unfold rWx; rw [h1]; show _ = (match rwN g i (31 - k) x9 sm ps with | none => -5 | some (a, b, c) => if nI w0 = 0 then nI a else if nI w0 = 1 then nI b else nI c); rw [show 31 - k = (30 - k) + 1 by omega, rwN_a (by unfold arR; rw [decide_eq_true c_75, decide_eq_true c_86]; rfl), show 30 - (30 - k) = k by omega]; exact ((if_neg (fun h => by have := (nI_eq (a := w0) (b := 0) (by omega) (by decide)).mp h; omega)).trans (if_pos (show nI w0 = 1 by rw [show w0 = 1 by omega]; rfl))).symm)
                · refine zj_iload (pc := 177) C dX7_walk_177 rfl ?_
                  refine zj_goto (pc := 179) (tgt := 194) C dX7_walk_179 (by decide) ?_
                  refine zj_iret C hr hlocks dX7_walk_194 ?_
                  exact zQ_mk (by rw [ha9]; unfold rWx; rw [h1]; show _ = (match rwN g i (31 - k) x9 sm ps with | none => -5 | some (a, b, c) => if nI w0 = 0 then nI a else if nI w0 = 1 then nI b else nI c); rw [show 31 - k = (30 - k) + 1 by omega, rwN_a (by unfold arR; rw [decide_eq_true c_75, decide_eq_true c_86]; rfl), show 30 - (30 - k) = k by omega]; exact (if_pos (show nI w0 = 0 by rw [show w0 = 0 by omega]; rfl)).symm)
              · refine zj_aload_n (pc := 89) C dX7_walk_89 rfl ?_
                refine zj_iload (pc := 90) C dX7_walk_90 rfl ?_
                refine zj_iload_n (pc := 92) C dX7_walk_92 rfl ?_
                refine zq_callP (pc := 93) C kv_X7_212 (m_X7_stepsFrom hv (by omega) (by omega)) dX7_walk_93 rfl rfl rfl rfl rfl rfl ⟨0, rfl⟩ rfl rfl ?_
                refine zj_callSF (pc := 96) C kv_X7_215 (m_X7_lowestOf (by omega)) dX7_walk_96 rfl rfl rfl rfl rfl rfl ?_
                refine zj_istore (pc := 99) C dX7_walk_99 (Nat.le_of_ble_eq_true rfl) ?_
                refine zj_iload (pc := 101) C dX7_walk_101 rfl ?_
                refine zq_mrg 123 [.int (nI (sm))] (nI (nxS g x9 i (lwG (sfN g x9 i (kL g)) 14))) ?_ (fun kk => ?_)
                · refine zq_iadd (pc := 123) C dX7_walk_123 ?_
                  refine zj_istore (pc := 124) C dX7_walk_124 (Nat.le_of_ble_eq_true rfl) ?_
                  refine zj_iload (pc := 126) C dX7_walk_126 rfl ?_
                  refine zq_mrg 143 [.int (nI (ps))] (nI (nxP (lwG (sfN g x9 i (kL g)) 14))) ?_ (fun kk => ?_)
                  · refine zq_ior (pc := 143) C dX7_walk_143 ?_
                    refine zj_istore (pc := 144) C dX7_walk_144 (Nat.le_of_ble_eq_true rfl) ?_
                    refine zj_iinc (pc := 146) (v := nI (k + 1)) C dX7_walk_146 rfl (nI_1 _) ?_
                    refine zj_iload (pc := 149) C dX7_walk_149 rfl ?_
                    refine zj_istore (pc := 151) C dX7_walk_151 (Nat.le_of_ble_eq_true rfl) ?_
                    refine zj_goto (pc := 153) (tgt := 53) C dX7_walk_153 (by decide) ?_
                    refine zj_keep [true, true, true, true, true, true, true, true, false] ?_
                    exact ih_53 (lwG (sfN g x9 i (kL g)) 14) (k + 1) (sm + nxS g x9 i (lwG (sfN g x9 i (kL g)) 14)) (ps ||| nxP (lwG (sfN g x9 i (kL g)) 14)) ⟨by rw [h1]; show rwN g i (31 - k) x9 sm ps = _; rw [show 31 - k = (31 - (k + 1)) + 1 by omega, rwN_s (by unfold arR; rw [decide_eq_false c_86, Bool.and_false])], by omega, fun x h => lwG_lt _ _ _ h, by have := nxS_le g x9 i (lwG (sfN g x9 i (kL g)) 14); omega⟩ (by omega)
                  · refine zj_iload (pc := 128) C dX7_walk_128 rfl ?_
                    refine zj_bipush (pc := 130) (v := (-5)) C dX7_walk_130 (by decide) ?_
                    refine zj_icmp_ne (pc := 132) 139 C dX7_walk_132 (by decide) (fun c_132 => ?_) (fun c_132 => ?_)
                    · obtain ⟨nx, hnx⟩ : ∃ nx, lwG (sfN g x9 i (kL g)) 14 = some nx := by cases h : lwG (sfN g x9 i (kL g)) 14 with | none => exact absurd ((optI_5 (fun j h => Nat.lt_trans (lwG_lt _ _ _ h) (by decide))).mpr h) c_132 | some nx => exact ⟨nx, rfl⟩
                      have hnx14 := lwG_lt _ _ _ hnx
                      refine zj_iconst (pc := 139) (v := nI 1) C dX7_walk_139 (by decide) ?_
                      refine zj_iload (pc := 140) C dX7_walk_140 rfl ?_
                      refine zj_top (x' := nI nx) (by rw [hnx]; rfl) ?_
                      refine zq_shl1 (pc := 142) C dX7_walk_142 (by omega) ?_
                      exact zj_top (x' := nI (nxP (lwG (sfN g x9 i (kL g)) 14))) (congrArg nI (by rw [hnx]; rfl)) kk
                    · refine zj_iconst (pc := 135) (v := nI 0) C dX7_walk_135 (by decide) ?_
                      refine zj_goto (pc := 136) (tgt := 143) C dX7_walk_136 (by decide) ?_
                      exact zj_top (x' := nI (nxP (lwG (sfN g x9 i (kL g)) 14))) (congrArg nI (by rw [(optI_5 (fun j h => Nat.lt_trans (lwG_lt _ _ _ h) (by decide))).mp c_132]; rfl)) kk
                · refine zj_iload (pc := 103) C dX7_walk_103 rfl ?_
                  refine zj_bipush (pc := 105) (v := (-5)) C dX7_walk_105 (by decide) ?_
                  refine zj_icmp_ne (pc := 107) 114 C dX7_walk_107 (by decide) (fun c_107 => ?_) (fun c_107 => ?_)
                  · obtain ⟨nx, hnx⟩ : ∃ nx, lwG (sfN g x9 i (kL g)) 14 = some nx := by cases h : lwG (sfN g x9 i (kL g)) 14 with | none => exact absurd ((optI_5 (fun j h => Nat.lt_trans (lwG_lt _ _ _ h) (by decide))).mpr h) c_107 | some nx => exact ⟨nx, rfl⟩
                    have hnx14 := lwG_lt _ _ _ hnx
                    refine zj_aload_n (pc := 114) C dX7_walk_114 rfl ?_
                    refine zj_iload (pc := 115) C dX7_walk_115 rfl ?_
                    refine zj_iload (pc := 117) C dX7_walk_117 rfl ?_
                    refine zj_top (x' := nI nx) (by rw [hnx]; rfl) ?_
                    refine zj_iload_n (pc := 119) C dX7_walk_119 rfl ?_
                    refine zq_callP (pc := 120) C kv_X7_218 (m_X7_shortestStep hv (by omega) (by omega) (by omega)) dX7_walk_120 rfl rfl rfl rfl rfl rfl ⟨0, rfl⟩ rfl rfl ?_
                    exact zj_top (x' := nI (nxS g x9 i (lwG (sfN g x9 i (kL g)) 14))) (congrArg nI (by rw [hnx]; rfl)) kk
                  · refine zj_iconst (pc := 110) (v := nI 0) C dX7_walk_110 (by decide) ?_
                    refine zj_goto (pc := 111) (tgt := 123) C dX7_walk_111 (by decide) ?_
                    exact zj_top (x' := nI (nxS g x9 i (lwG (sfN g x9 i (kL g)) 14))) (congrArg nI (by rw [(optI_5 (fun j h => Nat.lt_trans (lwG_lt _ _ _ h) (by decide))).mp c_107]; rfl)) kk
      · have hor : w < 0 ∨ 2 < w := by have h := c_23; unfold inB at h; simp at h; by_cases h1 : w < 0; exact Or.inl h1; exact Or.inr (h (Int32.not_lt.mp h1))
        have ho : rWK g (nI x0) (nI i) w = -2 := by unfold rWK; rw [if_pos hcc, if_pos hor]
        refine zj_bipush (pc := 26) (v := (-2)) C dX7_walk_26 (by decide) ?_
        refine zj_iret C hr hlocks dX7_walk_28 ?_
        exact zQ_mk ho.symm
    · have ho : rWK g x al w = -1 := by unfold rWK; rw [if_neg (by simp [c_4, c_12])]
      refine zj_iconst (pc := 15) (v := (-1)) C dX7_walk_15 (by decide) ?_
      refine zj_iret C hr hlocks dX7_walk_16 ?_
      exact zQ_mk ho.symm
