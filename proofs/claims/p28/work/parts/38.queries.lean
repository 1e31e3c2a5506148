set_option maxRecDepth 100000 in
set_option maxHeartbeats 4000000 in
theorem m_X6_countsAs {l : Launch} {G : GG} {ad : Nat → Nat → Nat} {q : Nat → Nat → Nat} {P Pd Ps : PC} {kp : Bool} {HP : Nat → PC} {hn : Nat} {t : Nat → Nat} {tn : Nat} {T : T7} {W1 W2 : TC} {st : Bool} {g : Nat → Nat} {y al : Nat} {cc : Nat} (hP : PR g P) (hv : Vg g) (hW1 : TBT W1) (hy : y < 14) (hal : al < kA g) (h4 : 4 ≤ cc) (h7 : cc ≤ 7) : zX l G yX6_countsAs cX6_countsAs 6 (some .boolean) 3 69 0 0 [.ref (ad 0 0), .int (nI cc), .int (nI y), .int (nI al)] (cls G ad q P Pd Ps kp HP hn t tn T W1 W2 st) (zF (some (.int (bI (cAs g W1 cc y al)))) (cls G ad q P Pd Ps kp HP hn t tn T W1 W2 st)) := by
  refine zj_startF RX6 (by decide +kernel) rfl rfl rfl (bs := [[((ad 0 0), .inr (6, [.ref (ad 1 0), .ref (ad 2 0), .ref (ad 3 0), .int (bI kp), .ref (ad 4 0), .ref (ad 5 0), .ref (ad 6 0), .ref (ad 7 0), .int (bI st)]))], plan G (ad 1) P, plan G (ad 2) Pd, plan G (ad 3) Ps, hist G (ad 4) q HP hn, text G (ad 5 0) (ad 5 1) t tn T, totT G (ad 6) W1, totT G (ad 7) W2]) rfl (lo := [some (.ref (ad 0 0)), some (.int (nI cc)), some (.int (nI y)), some (.int (nI al)), none, none]) rfl ?_
  intro p0 e0 s0 m0 args0 below0 meth0 c0 A0 C hr hlocks
  have hk := hv.2.1
  obtain ⟨v0, v1, v2⟩ := hv.2.2.2.2 al hal
  have w1 := hW1.1.1 4 y (alC g al 0) (by decide) hy v0
  have w2 := hW1.1.2.2.2.1 (y * 12 + al) (by omega)
  have w3 : shS g W1 y al ≤ 1000020 := by unfold shS; omega
  refine zj_aload_n (pc := 0) C dX6_countsAs_0 rfl ?_
  refine gf_X6_6 (pc := 1) C dX6_countsAs_1 0 rfl ?_
  refine zj_iload_n (pc := 4) C dX6_countsAs_4 rfl ?_
  refine zj_iload_n (pc := 5) C dX6_countsAs_5 rfl ?_
  refine zj_callP1 (pc := 6) C kv_X6_186 (m_X4_hasTotal hy (by omega) (hW1.1.2.2.2.2 _ (by omega))) dX6_countsAs_6 6 rfl rfl rfl rfl rfl rfl rfl ⟨0, rfl⟩ rfl rfl ?_
  refine zj_istore (pc := 9) C dX6_countsAs_9 (Nat.le_of_ble_eq_true rfl) ?_
  refine zj_aload_n (pc := 11) C dX6_countsAs_11 rfl ?_
  refine zj_iload_n (pc := 12) C dX6_countsAs_12 rfl ?_
  refine zj_iload_n (pc := 13) C dX6_countsAs_13 rfl ?_
  refine zj_callPA (pc := 14) C kv_X6_208 (m_X6_shortestSum hP hv hy hal) dX6_countsAs_14 [0, 1, 2, 3, 4, 5, 6, 7] [] rfl rfl rfl rfl rfl rfl rfl rfl ⟨0, rfl⟩ rfl rfl ?_
  refine zj_istore (pc := 17) C dX6_countsAs_17 (Nat.le_of_ble_eq_true rfl) ?_
  refine zj_loc (lo' := [some (.ref (ad 0 0)), some (.int (nI cc)), some (.int (nI y)), some (.int (nI al)), some (.int (bI (hsT W1 y al))), some (.int (nI (shS g W1 y al)))]) rfl ?_
  refine zj_iload_n (pc := 19) C dX6_countsAs_19 rfl ?_
  rcases (show cc = 4 ∨ cc = 5 ∨ cc = 6 ∨ cc = 7 by omega) with hcc9 | hcc9 | hcc9 | hcc9
  · refine zj_top (x' := 4) (by rw [hcc9]; rfl) ?_
    refine zj_tableIn (pc := 20) 48 C dX6_countsAs_20 (by decide) (by decide) rfl (by decide) ?_
    refine zj_iload (pc := 48) C dX6_countsAs_48 rfl ?_
    refine zj_zretF C hr hlocks dX6_countsAs_50 ?_ rfl
    unfold cAs
    (simp [hcc9, bI, Nat.not_lt, Nat.not_le] <;> omega)
  · refine zj_top (x' := 5) (by rw [hcc9]; rfl) ?_
    refine zj_tableIn (pc := 20) 51 C dX6_countsAs_20 (by decide) (by decide) rfl (by decide) ?_
    refine zj_iload (pc := 51) C dX6_countsAs_51 rfl ?_
    refine zj_ifb_ne (pc := 53) 60 C dX6_countsAs_53 (by decide) (fun c_53 => ?_) (fun c_53 => ?_)
    · refine zj_iconst (pc := 60) (v := 0) C dX6_countsAs_60 (by decide) ?_
      refine zj_zretF C hr hlocks dX6_countsAs_61 ?_ rfl
      unfold cAs
      (simp [hcc9, bI, c_53, Nat.not_lt, Nat.not_le] <;> omega)
    · refine zj_iconst (pc := 56) (v := 1) C dX6_countsAs_56 (by decide) ?_
      refine zj_goto (pc := 57) (tgt := 61) C dX6_countsAs_57 (by decide) ?_
      refine zj_zretF C hr hlocks dX6_countsAs_61 ?_ rfl
      unfold cAs
      (simp [hcc9, bI, c_53, Nat.not_lt, Nat.not_le] <;> omega)
  · refine zj_top (x' := 6) (by rw [hcc9]; rfl) ?_
    refine zj_tableIn (pc := 20) 62 C dX6_countsAs_20 (by decide) (by decide) rfl (by decide) ?_
    refine zj_iload (pc := 62) C dX6_countsAs_62 rfl ?_
    refine zj_ifb_ne (pc := 64) 78 C dX6_countsAs_64 (by decide) (fun c_64 => ?_) (fun c_64 => ?_)
    · refine zj_iconst (pc := 78) (v := 0) C dX6_countsAs_78 (by decide) ?_
      refine zj_zretF C hr hlocks dX6_countsAs_79 ?_ rfl
      unfold cAs
      (simp [hcc9, bI, c_64, Nat.not_lt, Nat.not_le] <;> omega)
    · refine zj_iload (pc := 67) C dX6_countsAs_67 rfl ?_
      refine zj_ldc (pc := 69) (v := 1000000) C dX6_countsAs_69 aq_390 ?_
      refine zj_icmp_ge (pc := 71) 78 C dX6_countsAs_71 (by decide) (fun c_71 => ?_) (fun c_71 => ?_)
      · refine zj_iconst (pc := 78) (v := 0) C dX6_countsAs_78 (by decide) ?_
        refine zj_zretF C hr hlocks dX6_countsAs_79 ?_ rfl
        rw [show (1000000 : Int32) = nI 1000000 from rfl, nI_leI (by omega) (by omega)] at c_71
        unfold cAs
        (simp [hcc9, bI, c_64, c_71, Nat.not_lt, Nat.not_le] <;> omega)
      · refine zj_iconst (pc := 74) (v := 1) C dX6_countsAs_74 (by decide) ?_
        refine zj_goto (pc := 75) (tgt := 79) C dX6_countsAs_75 (by decide) ?_
        refine zj_zretF C hr hlocks dX6_countsAs_79 ?_ rfl
        rw [show (1000000 : Int32) = nI 1000000 from rfl, nI_leI (by omega) (by omega)] at c_71
        unfold cAs
        (simp [hcc9, bI, c_64, c_71, Nat.not_lt, Nat.not_le] <;> omega)
  · refine zj_top (x' := 7) (by rw [hcc9]; rfl) ?_
    refine zj_tableOut (pc := 20) 80 C dX6_countsAs_20 (Or.inr (by decide)) (by decide) ?_
    refine zj_iload (pc := 80) C dX6_countsAs_80 rfl ?_
    refine zj_ifb_eq (pc := 82) 103 C dX6_countsAs_82 (by decide) (fun c_82 => ?_) (fun c_82 => ?_)
    · refine zj_iconst (pc := 103) (v := 0) C dX6_countsAs_103 (by decide) ?_
      refine zj_zretF C hr hlocks dX6_countsAs_104 ?_ rfl
      unfold cAs
      (simp [hcc9, bI, c_82, Nat.not_lt, Nat.not_le] <;> omega)
    · refine zj_aload_n (pc := 85) C dX6_countsAs_85 rfl ?_
      refine gf_X6_6 (pc := 86) C dX6_countsAs_86 0 rfl ?_
      refine zj_iload_n (pc := 89) C dX6_countsAs_89 rfl ?_
      refine zj_iload_n (pc := 90) C dX6_countsAs_90 rfl ?_
      refine zj_callP1 (pc := 91) C kv_X6_190 (m_X4_sumFor hy (by omega)) dX6_countsAs_91 6 rfl rfl rfl rfl rfl rfl rfl ⟨0, rfl⟩ rfl rfl ?_
      refine zj_iload (pc := 94) C dX6_countsAs_94 rfl ?_
      refine zj_icmp_le (pc := 96) 103 C dX6_countsAs_96 (by decide) (fun c_96 => ?_) (fun c_96 => ?_)
      · refine zj_iconst (pc := 103) (v := 0) C dX6_countsAs_103 (by decide) ?_
        refine zj_zretF C hr hlocks dX6_countsAs_104 ?_ rfl
        rw [nI_leI (by omega) (by omega)] at c_96
        unfold cAs
        (simp [hcc9, bI, c_82, c_96, Nat.not_lt, Nat.not_le] <;> omega)
      · refine zj_iconst (pc := 99) (v := 1) C dX6_countsAs_99 (by decide) ?_
        refine zj_goto (pc := 100) (tgt := 104) C dX6_countsAs_100 (by decide) ?_
        refine zj_zretF C hr hlocks dX6_countsAs_104 ?_ rfl
        rw [nI_leI (by omega) (by omega)] at c_96
        unfold cAs
        (simp [hcc9, bI, c_82, c_96, Nat.not_lt, Nat.not_le] <;> omega)
set_option maxRecDepth 100000 in
set_option maxHeartbeats 4000000 in
theorem m_X6_countPairs {l : Launch} {G : GG} {ad : Nat → Nat → Nat} {q : Nat → Nat → Nat} {P Pd Ps : PC} {kp : Bool} {HP : Nat → PC} {hn : Nat} {t : Nat → Nat} {tn : Nat} {T : T7} {W1 W2 : TC} {st : Bool} {g : Nat → Nat} {cc : Nat} (hP : PR g P) (hv : Vg g) (hW1 : TBT W1) (h4 : 4 ≤ cc) (h7 : cc ≤ 7) : zX l G yX6_countPairs cX6_countPairs 5 (some .int) 4 94 0 0 [.ref (ad 0 0), .int (nI cc)] (cls G ad q P Pd Ps kp HP hn t tn T W1 W2 st) (zF (some (.int (nI (cpN g W1 cc)))) (cls G ad q P Pd Ps kp HP hn t tn T W1 W2 st)) := by
  refine zj_startF RX6 (by decide +kernel) rfl rfl rfl (bs := [[((ad 0 0), .inr (6, [.ref (ad 1 0), .ref (ad 2 0), .ref (ad 3 0), .int (bI kp), .ref (ad 4 0), .ref (ad 5 0), .ref (ad 6 0), .ref (ad 7 0), .int (bI st)]))], plan G (ad 1) P, plan G (ad 2) Pd, plan G (ad 3) Ps, hist G (ad 4) q HP hn, text G (ad 5 0) (ad 5 1) t tn T, totT G (ad 6) W1, totT G (ad 7) W2]) rfl (lo := [some (.ref (ad 0 0)), some (.int (nI cc)), none, none, none]) rfl ?_
  intro p0 e0 s0 m0 args0 below0 meth0 c0 A0 C hr hlocks
  have hk := hv.2.1
  refine zj_iconst (pc := 0) (v := 0) C dX6_countPairs_0 (by decide) ?_
  refine zj_istore_n (pc := 1) C dX6_countPairs_1 (Nat.le_of_ble_eq_true rfl) ?_
  refine zj_iconst (pc := 2) (v := 0) C dX6_countPairs_2 (by decide) ?_
  refine zj_istore_n (pc := 3) C dX6_countPairs_3 (Nat.le_of_ble_eq_true rfl) ?_
  refine zj_keep [true, true, true, true, false] ?_
  refine zj_loopW (σ := Nat) (fun x => x ≤ 14) (fun x => 14 - x) (fun x => [[((ad 0 0), .inr (6, [.ref (ad 1 0), .ref (ad 2 0), .ref (ad 3 0), .int (bI kp), .ref (ad 4 0), .ref (ad 5 0), .ref (ad 6 0), .ref (ad 7 0), .int (bI st)]))], plan G (ad 1) P, plan G (ad 2) Pd, plan G (ad 3) Ps, hist G (ad 4) q HP hn, text G (ad 5 0) (ad 5 1) t tn T, totT G (ad 6) W1, totT G (ad 7) W2]) (fun x => [some (.ref (ad 0 0)), some (.int (nI cc)), some (.int (nI (sumB (fun z => !(W1.2.1 z == 0)) (fun z => cntB (fun al => cAs g W1 cc z al) (kA g)) (x)))), some (.int (nI (x))), none]) ?_ 0 (Nat.zero_le _)
  intro i hi ih
  refine zj_iload_n (pc := 4) C dX6_countPairs_4 rfl ?_
  refine zj_bipush (pc := 5) (v := 14) C dX6_countPairs_5 (by decide) ?_
  refine zj_icmp_ge (pc := 7) 65 C dX6_countPairs_7 (by decide) (fun c_7 => ?_) (fun c_7 => ?_)
  · refine zj_iload_n (pc := 65) C dX6_countPairs_65 rfl ?_
    refine zj_iretF C hr hlocks dX6_countPairs_66 ?_ rfl
    rw [show i = 14 from Nat.le_antisymm hi (zle c_7 (by omega))]
    exact rfl
  · have hi14 : i < 14 := zlt c_7 (by omega)
    have hdi := hW1.1.2.1 i hi14
    refine zj_aload_n (pc := 10) C dX6_countPairs_10 rfl ?_
    refine gf_X6_6 (pc := 11) C dX6_countPairs_11 0 rfl ?_
    refine zj_iload_n (pc := 14) C dX6_countPairs_14 rfl ?_
    refine zj_callP1 (pc := 15) C kv_X6_165 (m_X4_districtsOf hi14) dX6_countPairs_15 6 rfl rfl rfl rfl rfl rfl rfl ⟨0, rfl⟩ rfl rfl ?_
    refine zj_top (x' := nI (W1.2.1 i)) rfl ?_
    refine zj_if_ne (pc := 18) 24 C dX6_countPairs_18 (by decide) (fun c_18 => ?_) (fun c_18 => ?_)
    · have hin : (!(W1.2.1 i == 0)) = true := by simpa [nI_z (show W1.2.1 i < 2 ^ 31 by omega)] using c_18
      refine zj_iconst (pc := 24) (v := 0) C dX6_countPairs_24 (by decide) ?_
      refine zj_istore (pc := 25) C dX6_countPairs_25 (Nat.le_of_ble_eq_true rfl) ?_
      refine zj_keep [true, true, true, true, true] ?_
      refine zj_loopW (σ := Nat) (fun x => x ≤ kA g) (fun x => kA g - x) (fun x => [[((ad 0 0), .inr (6, [.ref (ad 1 0), .ref (ad 2 0), .ref (ad 3 0), .int (bI kp), .ref (ad 4 0), .ref (ad 5 0), .ref (ad 6 0), .ref (ad 7 0), .int (bI st)]))], plan G (ad 1) P, plan G (ad 2) Pd, plan G (ad 3) Ps, hist G (ad 4) q HP hn, text G (ad 5 0) (ad 5 1) t tn T, totT G (ad 6) W1, totT G (ad 7) W2]) (fun x => [some (.ref (ad 0 0)), some (.int (nI cc)), some (.int (nI (sumB (fun z => !(W1.2.1 z == 0)) (fun z => cntB (fun al => cAs g W1 cc z al) (kA g)) (i) + cntB (fun al => cAs g W1 cc i al) (x)))), some (.int (nI i)), some (.int (nI (x)))]) ?_ 0 (Nat.zero_le _)
      intro j hj ihj
      refine zj_iload (pc := 27) C dX6_countPairs_27 rfl ?_
      refine zj_aload_n (pc := 29) C dX6_countPairs_29 rfl ?_
      refine gf_X6_0 (pc := 30) C dX6_countPairs_30 0 rfl ?_
      refine zj_callP1 (pc := 33) C kv_X6_212 (m_X1_alleyCount hP) dX6_countPairs_33 1 rfl rfl rfl rfl rfl rfl rfl ⟨0, rfl⟩ rfl rfl ?_
      refine zj_top (x' := nI (kA g)) rfl ?_
      refine zj_icmp_ge (pc := 36) 59 C dX6_countPairs_36 (by decide) (fun c_36 => ?_) (fun c_36 => ?_)
      · refine zj_iinc (pc := 59) (v := nI (i + 1)) C dX6_countPairs_59 rfl (nI_1 _) ?_
        refine zj_goto (pc := 62) (tgt := 4) C dX6_countPairs_62 (by decide) ?_
        refine zj_keep [true, true, true, true, false] ?_
        exact zj_loc (lo' := [some (.ref (ad 0 0)), some (.int (nI cc)), some (.int (nI (sumB (fun z => !(W1.2.1 z == 0)) (fun z => cntB (fun al => cAs g W1 cc z al) (kA g)) (i + 1)))), some (.int (nI (i + 1))), none]) (by rw [show j = kA g from Nat.le_antisymm hj (zle c_36 (by omega)), sumB_t (p := fun z => !(W1.2.1 z == 0)) hin]; rfl) (ih (i + 1) hi14 (by omega))
      · have hjl : j < kA g := zlt c_36 (by omega)
        refine zj_aload_n (pc := 39) C dX6_countPairs_39 rfl ?_
        refine zj_iload_n (pc := 40) C dX6_countPairs_40 rfl ?_
        refine zj_iload_n (pc := 41) C dX6_countPairs_41 rfl ?_
        refine zj_iload (pc := 42) C dX6_countPairs_42 rfl ?_
        refine zj_callPA (pc := 44) C kv_X6_265 (m_X6_countsAs hP hv hW1 hi14 hjl h4 h7) dX6_countPairs_44 [0, 1, 2, 3, 4, 5, 6, 7] [] rfl rfl rfl rfl rfl rfl rfl rfl ⟨0, rfl⟩ rfl rfl ?_
        refine zj_ifb_eq (pc := 47) 53 C dX6_countPairs_47 (by decide) (fun c_47 => ?_) (fun c_47 => ?_)
        · refine zj_iinc (pc := 53) (v := nI (j + 1)) C dX6_countPairs_53 rfl (nI_1 _) ?_
          refine zj_goto (pc := 56) (tgt := 27) C dX6_countPairs_56 (by decide) ?_
          exact zj_loc (lo' := [some (.ref (ad 0 0)), some (.int (nI cc)), some (.int (nI (sumB (fun z => !(W1.2.1 z == 0)) (fun z => cntB (fun al => cAs g W1 cc z al) (kA g)) (i) + cntB (fun al => cAs g W1 cc i al) (j + 1)))), some (.int (nI i)), some (.int (nI (j + 1)))]) (by rw [cntB_f (p := (fun al => cAs g W1 cc i al)) c_47]; rfl) (ihj (j + 1) hjl (by omega))
        · refine zj_iinc (pc := 50) (v := nI (sumB (fun z => !(W1.2.1 z == 0)) (fun z => cntB (fun al => cAs g W1 cc z al) (kA g)) (i) + (cntB (fun al => cAs g W1 cc i al) j + 1))) C dX6_countPairs_50 rfl (by rw [← Nat.add_assoc]; exact nI_1 _) ?_
          refine zj_iinc (pc := 53) (v := nI (j + 1)) C dX6_countPairs_53 rfl (nI_1 _) ?_
          refine zj_goto (pc := 56) (tgt := 27) C dX6_countPairs_56 (by decide) ?_
          exact zj_loc (lo' := [some (.ref (ad 0 0)), some (.int (nI cc)), some (.int (nI (sumB (fun z => !(W1.2.1 z == 0)) (fun z => cntB (fun al => cAs g W1 cc z al) (kA g)) (i) + cntB (fun al => cAs g W1 cc i al) (j + 1)))), some (.int (nI i)), some (.int (nI (j + 1)))]) (by rw [cntB_t (p := (fun al => cAs g W1 cc i al)) c_47]; rfl) (ihj (j + 1) hjl (by omega))
    · have hin : (!(W1.2.1 i == 0)) = false := by simpa [nI_z (show W1.2.1 i < 2 ^ 31 by omega)] using c_18
      refine zj_goto (pc := 21) (tgt := 59) C dX6_countPairs_21 (by decide) ?_
      refine zj_iinc (pc := 59) (v := nI (i + 1)) C dX6_countPairs_59 rfl (nI_1 _) ?_
      refine zj_goto (pc := 62) (tgt := 4) C dX6_countPairs_62 (by decide) ?_
      refine zj_keep [true, true, true, true, false] ?_
      exact zj_loc (lo' := [some (.ref (ad 0 0)), some (.int (nI cc)), some (.int (nI (sumB (fun z => !(W1.2.1 z == 0)) (fun z => cntB (fun al => cAs g W1 cc z al) (kA g)) (i + 1)))), some (.int (nI (i + 1))), none]) (by rw [sumB_f (p := fun z => !(W1.2.1 z == 0)) hin]; rfl) (ih (i + 1) hi14 (by omega))
def cjB (g : Nat → Nat) (W : TC) (x y d : Nat) : Bool := bitB (W.2.1 x) 0 && (!(bitB (W.2.1 x) d) && (bitB (W.2.1 y) d && hasB g x y))
def aWI (W : TC) (d x y : Int32) : Int32 := if isDi d && (isC x && isC y) then nFar (W.1 d.toNatClampNeg x.toNatClampNeg y.toNatClampNeg) else -1
def aSH (g : Nat → Nat) (W : TC) (x al : Int32) : Int32 := if isC x && tHas (nI (kA g)) al then nFar (shS g W x.toNatClampNeg al.toNatClampNeg) else -1
def aTO (g : Nat → Nat) (W : TC) (x al w : Int32) : Int32 := if isC x && tHas (nI (kA g)) al then (if w < 0 ∨ 3 < w then -2 else if hsT W x.toNatClampNeg al.toNatClampNeg then (if w = 0 then nI (W.2.2.2.1 (x.toNatClampNeg * 12 + al.toNatClampNeg)) else if w = 1 then nI (W.2.2.2.2.1 (x.toNatClampNeg * 12 + al.toNatClampNeg)) else if w = 2 then optI ((fsN g W x.toNatClampNeg al.toNatClampNeg 24).bind (fun b => oeN g b x.toNatClampNeg)) else nI (seN g W x.toNatClampNeg al.toNatClampNeg 24)) else -5) else -1

set_option maxRecDepth 100000 in
set_option maxHeartbeats 4000000 in
theorem m_X6_within {l : Launch} {G : GG} {ad : Nat → Nat → Nat} {q : Nat → Nat → Nat} {P Pd Ps : PC} {kp : Bool} {HP : Nat → PC} {hn : Nat} {t : Nat → Nat} {tn : Nat} {T : T7} {W1 W2 : TC} {st : Bool} {g : Nat → Nat} {d x y : Int32} (hP : PR g P) (hv : Vg g) (hW1 : TBT W1) : zX l G yX6_within cX6_within 4 (some .int) 7 163 0 0 [.ref (ad 0 0), .int d, .int x, .int y] (cls G ad q P Pd Ps kp HP hn t tn T W1 W2 st) (zF (some (.int (aWI (wK g st W1) d x y))) (if isDi d && (isC x && isC y) then cls G ad q P Pd Ps kp HP hn t tn T (wK g st W1) W2 false else cls G ad q P Pd Ps kp HP hn t tn T W1 W2 st)) := by
  refine zj_startF RX6 (by decide +kernel) rfl rfl rfl (bs := [[((ad 0 0), .inr (6, [.ref (ad 1 0), .ref (ad 2 0), .ref (ad 3 0), .int (bI kp), .ref (ad 4 0), .ref (ad 5 0), .ref (ad 6 0), .ref (ad 7 0), .int (bI st)]))], plan G (ad 1) P, plan G (ad 2) Pd, plan G (ad 3) Ps, hist G (ad 4) q HP hn, text G (ad 5 0) (ad 5 1) t tn T, totT G (ad 6) W1, totT G (ad 7) W2]) rfl (lo := [some (.ref (ad 0 0)), some (.int d), some (.int x), some (.int y)]) rfl ?_
  intro p0 e0 s0 m0 args0 below0 meth0 c0 A0 C hr hlocks
  refine zj_iload_n (pc := 0) C dX6_within_0 rfl ?_
  refine zj_callSF (pc := 1) C kv_X6_57 (m_X6_isDistrict) dX6_within_1 rfl rfl rfl rfl rfl rfl ?_
  refine zj_ifb_eq (pc := 4) 21 C dX6_within_4 (by decide) (fun c_4 => ?_) (fun c_4 => ?_)
  · refine zj_iconst (pc := 21) (v := (-1)) C dX6_within_21 (by decide) ?_
    exact zj_iretF C hr hlocks dX6_within_22 (by unfold aWI; rw [if_neg (by simp [c_4])]) (by rw [if_neg (by simp [c_4])]; rfl)
  · refine zj_iload_n (pc := 7) C dX6_within_7 rfl ?_
    refine zj_callSF (pc := 8) C kv_X6_53 (m_X6_isCrossing) dX6_within_8 rfl rfl rfl rfl rfl rfl ?_
    refine zj_ifb_eq (pc := 11) 21 C dX6_within_11 (by decide) (fun c_11 => ?_) (fun c_11 => ?_)
    · refine zj_iconst (pc := 21) (v := (-1)) C dX6_within_21 (by decide) ?_
      exact zj_iretF C hr hlocks dX6_within_22 (by unfold aWI; rw [if_neg (by simp [c_4, c_11])]) (by rw [if_neg (by simp [c_4, c_11])]; rfl)
    · refine zj_iload_n (pc := 14) C dX6_within_14 rfl ?_
      refine zj_callSF (pc := 15) C kv_X6_53 (m_X6_isCrossing) dX6_within_15 rfl rfl rfl rfl rfl rfl ?_
      refine zj_ifb_ne (pc := 18) 23 C dX6_within_18 (by decide) (fun c_18 => ?_) (fun c_18 => ?_)
      · obtain ⟨d0, hd0, hxd0⟩ := isDi_n c_4
        have hnd0 : d.toNatClampNeg = d0 := by rw [hxd0]; exact nI_clamp (by have := hv.2.1; omega)
        obtain ⟨x0, hx0, hxx0⟩ := isC_n c_11
        have hnx0 : x.toNatClampNeg = x0 := by rw [hxx0]; exact nI_clamp (by have := hv.2.1; omega)
        obtain ⟨y0, hy0, hxy0⟩ := isC_n c_18
        have hny0 : y.toNatClampNeg = y0 := by rw [hxy0]; exact nI_clamp (by have := hv.2.1; omega)
        refine zj_loc (lo' := [some (.ref (ad 0 0)), some (.int (nI d0)), some (.int (nI x0)), some (.int (nI y0))]) (by rw [hxd0, hxx0, hxy0]) ?_
        refine zj_aload_n (pc := 23) C dX6_within_23 rfl ?_
        refine zj_callA (pc := 24) C kv_X6_156 (m_X6_workOut hP hv hW1) dX6_within_24 [0, 1, 2, 3, 4, 5, 6, 7] [] rfl rfl rfl rfl rfl rfl rfl rfl ⟨0, rfl⟩ rfl rfl (fun v w1 hq => ?_)
        obtain ⟨rfl, rfl⟩ := hq
        refine zj_blk (bs' := [[((ad 0 0), .inr (6, [.ref (ad 1 0), .ref (ad 2 0), .ref (ad 3 0), .int (bI kp), .ref (ad 4 0), .ref (ad 5 0), .ref (ad 6 0), .ref (ad 7 0), .int (bI false)]))], plan G (ad 1) P, plan G (ad 2) Pd, plan G (ad 3) Ps, hist G (ad 4) q HP hn, text G (ad 5 0) (ad 5 1) t tn T, totT G (ad 6) (wK g st W1), totT G (ad 7) W2]) rfl ?_
        have hWK : TBT (wK g st W1) := wK_TBT hv hW1
        refine zj_aload_n (pc := 27) C dX6_within_27 rfl ?_
        refine gf_X6_6 (pc := 28) C dX6_within_28 0 rfl ?_
        refine zj_iload_n (pc := 31) C dX6_within_31 rfl ?_
        refine zj_iload_n (pc := 32) C dX6_within_32 rfl ?_
        refine zj_iload_n (pc := 33) C dX6_within_33 rfl ?_
        refine zj_callP1 (pc := 34) C kv_X6_180 (m_X4_way (by omega) hx0 hy0) dX6_within_34 6 rfl rfl rfl rfl rfl rfl rfl ⟨0, rfl⟩ rfl rfl ?_
        refine zj_top (x' := nI ((wK g st W1).1 d0 x0 y0)) rfl ?_
        refine zj_callSF (pc := 37) C kv_X6_183 (m_X6_noneIfFar (by have := hWK.1.1 d0 x0 y0 (by omega) hx0 hy0; omega)) dX6_within_37 rfl rfl rfl rfl rfl rfl ?_
        exact zj_iretF C hr hlocks dX6_within_40 (by unfold aWI; rw [if_pos (by simp [c_4, c_11, c_18]), hnd0, hnx0, hny0]) (by rw [if_pos (by simp [c_4, c_11, c_18])]; rfl)
      · refine zj_iconst (pc := 21) (v := (-1)) C dX6_within_21 (by decide) ?_
        exact zj_iretF C hr hlocks dX6_within_22 (by unfold aWI; rw [if_neg (by simp [c_4, c_11, c_18])]) (by rw [if_neg (by simp [c_4, c_11, c_18])]; rfl)
set_option maxRecDepth 100000 in
set_option maxHeartbeats 4000000 in
theorem m_X6_shortest {l : Launch} {G : GG} {ad : Nat → Nat → Nat} {q : Nat → Nat → Nat} {P Pd Ps : PC} {kp : Bool} {HP : Nat → PC} {hn : Nat} {t : Nat → Nat} {tn : Nat} {T : T7} {W1 W2 : TC} {st : Bool} {g : Nat → Nat} {x w : Int32} (hP : PR g P) (hv : Vg g) (hW1 : TBT W1) : zX l G yX6_shortest cX6_shortest 3 (some .int) 7 163 0 0 [.ref (ad 0 0), .int x, .int w] (cls G ad q P Pd Ps kp HP hn t tn T W1 W2 st) (zF (some (.int (aSH g (wK g st W1) x w))) (if isC x && tHas (nI (kA g)) w then cls G ad q P Pd Ps kp HP hn t tn T (wK g st W1) W2 false else cls G ad q P Pd Ps kp HP hn t tn T W1 W2 st)) := by
  refine zj_startF RX6 (by decide +kernel) rfl rfl rfl (bs := [[((ad 0 0), .inr (6, [.ref (ad 1 0), .ref (ad 2 0), .ref (ad 3 0), .int (bI kp), .ref (ad 4 0), .ref (ad 5 0), .ref (ad 6 0), .ref (ad 7 0), .int (bI st)]))], plan G (ad 1) P, plan G (ad 2) Pd, plan G (ad 3) Ps, hist G (ad 4) q HP hn, text G (ad 5 0) (ad 5 1) t tn T, totT G (ad 6) W1, totT G (ad 7) W2]) rfl (lo := [some (.ref (ad 0 0)), some (.int x), some (.int w)]) rfl ?_
  intro p0 e0 s0 m0 args0 below0 meth0 c0 A0 C hr hlocks
  refine zj_iload_n (pc := 0) C dX6_shortest_0 rfl ?_
  refine zj_callSF (pc := 1) C kv_X6_53 (m_X6_isCrossing) dX6_shortest_1 rfl rfl rfl rfl rfl rfl ?_
  refine zj_ifb_eq (pc := 4) 18 C dX6_shortest_4 (by decide) (fun c_4 => ?_) (fun c_4 => ?_)
  · refine zj_iconst (pc := 18) (v := (-1)) C dX6_shortest_18 (by decide) ?_
    exact zj_iretF C hr hlocks dX6_shortest_19 (by unfold aSH; rw [if_neg (by simp [c_4])]) (by rw [if_neg (by simp [c_4])]; rfl)
  · refine zj_aload_n (pc := 7) C dX6_shortest_7 rfl ?_
    refine gf_X6_0 (pc := 8) C dX6_shortest_8 0 rfl ?_
    refine zj_iload_n (pc := 11) C dX6_shortest_11 rfl ?_
    refine zj_callP1 (pc := 12) C kv_X6_102 (m_X1_hasAlley hP) dX6_shortest_12 1 rfl rfl rfl rfl rfl rfl rfl ⟨0, rfl⟩ rfl rfl ?_
    refine zj_ifb_ne (pc := 15) 20 C dX6_shortest_15 (by decide) (fun c_15 => ?_) (fun c_15 => ?_)
    · obtain ⟨x0, hx0, hxx0⟩ := isC_n c_4
      have hnx0 : x.toNatClampNeg = x0 := by rw [hxx0]; exact nI_clamp (by have := hv.2.1; omega)
      obtain ⟨w0, hw0, hxw0⟩ := tHas_s (by have := hv.2.1; omega) c_15
      have hnw0 : w.toNatClampNeg = w0 := by rw [hxw0]; exact nI_clamp (by have := hv.2.1; omega)
      refine zj_loc (lo' := [some (.ref (ad 0 0)), some (.int (nI x0)), some (.int (nI w0))]) (by rw [hxx0, hxw0]) ?_
      refine zj_aload_n (pc := 20) C dX6_shortest_20 rfl ?_
      refine zj_callA (pc := 21) C kv_X6_156 (m_X6_workOut hP hv hW1) dX6_shortest_21 [0, 1, 2, 3, 4, 5, 6, 7] [] rfl rfl rfl rfl rfl rfl rfl rfl ⟨0, rfl⟩ rfl rfl (fun v w1 hq => ?_)
      obtain ⟨rfl, rfl⟩ := hq
      refine zj_blk (bs' := [[((ad 0 0), .inr (6, [.ref (ad 1 0), .ref (ad 2 0), .ref (ad 3 0), .int (bI kp), .ref (ad 4 0), .ref (ad 5 0), .ref (ad 6 0), .ref (ad 7 0), .int (bI false)]))], plan G (ad 1) P, plan G (ad 2) Pd, plan G (ad 3) Ps, hist G (ad 4) q HP hn, text G (ad 5 0) (ad 5 1) t tn T, totT G (ad 6) (wK g st W1), totT G (ad 7) W2]) rfl ?_
      have hWK : TBT (wK g st W1) := wK_TBT hv hW1
      refine zj_aload_n (pc := 24) C dX6_shortest_24 rfl ?_
      refine zj_iload_n (pc := 25) C dX6_shortest_25 rfl ?_
      refine zj_iload_n (pc := 26) C dX6_shortest_26 rfl ?_
      refine zj_callPA (pc := 27) C kv_X6_208 (m_X6_shortestSum hP hv hx0 hw0) dX6_shortest_27 [0, 1, 2, 3, 4, 5, 6, 7] [] rfl rfl rfl rfl rfl rfl rfl rfl ⟨0, rfl⟩ rfl rfl ?_
      refine zj_callSF (pc := 30) C kv_X6_183 (m_X6_noneIfFar (by have := hWK.1.1 4 x0 (alC g w0 0) (by decide) hx0 (hv.2.2.2.2 w0 hw0).1; have := (hv.2.2.2.2 w0 hw0).2.1; unfold shS; omega)) dX6_shortest_30 rfl rfl rfl rfl rfl rfl ?_
      exact zj_iretF C hr hlocks dX6_shortest_33 (by unfold aSH; rw [if_pos (by simp [c_4, c_15]), hnx0, hnw0]) (by rw [if_pos (by simp [c_4, c_15])]; rfl)
    · refine zj_iconst (pc := 18) (v := (-1)) C dX6_shortest_18 (by decide) ?_
      exact zj_iretF C hr hlocks dX6_shortest_19 (by unfold aSH; rw [if_neg (by simp [c_4, c_15])]) (by rw [if_neg (by simp [c_4, c_15])]; rfl)
