def chB (c b a : Nat) : Bool := if c = 0 then decide (b < 1000000) && !(decide (a < 1000000)) else if c = 1 then decide (b < a) && decide (a < 1000000) else if c = 2 then decide (a < b) && decide (b < 1000000) else !(decide (b < 1000000)) && decide (a < 1000000)
def ccN (k c : Nat) (S1 S2 : Nat → Nat) : Nat := sumB (fun _ => true) (fun x => cntB (fun al => chB c (S1 (x * 12 + al)) (S2 (x * 12 + al))) k) 14
def hsT (W : TC) (x al : Nat) : Bool := !(W.2.2.2.2.1 (x * 12 + al) == 0)
def cAs (g : Nat → Nat) (W : TC) (c x al : Nat) : Bool := if c = 4 then hsT W x al else if c = 5 then !(hsT W x al) else if c = 6 then !(hsT W x al) && decide (shS g W x al < 1000000) else hsT W x al && decide (shS g W x al < W.2.2.2.1 (x * 12 + al))
def cpN (g : Nat → Nat) (W : TC) (c : Nat) : Nat := sumB (fun x => !(W.2.1 x == 0)) (fun x => cntB (fun al => cAs g W c x al) (kA g)) 14

set_option maxRecDepth 100000 in
set_option maxHeartbeats 4000000 in
theorem m_X6_isChange {l : Launch} {G : GG} {cc bb aa : Nat} (hc : cc ≤ 3) (hb : bb ≤ 1000000) (ha : aa ≤ 1000000) : zX l G yX6_isChange cX6_isChange 3 (some .boolean) 0 0 0 0 [.int (nI cc), .int (nI bb), .int (nI aa)] ([]) (zF (some (.int (bI (chB cc bb aa)))) ([])) := by
  refine zj_startF RX6 (by decide +kernel) rfl rfl rfl (bs := []) rfl (lo := [some (.int (nI cc)), some (.int (nI bb)), some (.int (nI aa))]) rfl ?_
  intro p0 e0 s0 m0 args0 below0 meth0 c0 A0 C hr hlocks
  refine zj_iload_n (pc := 0) C dX6_isChange_0 rfl ?_
  rcases (show cc = 0 ∨ cc = 1 ∨ cc = 2 ∨ cc = 3 by omega) with hcc | hcc | hcc | hcc
  · refine zj_top (x' := 0) (by rw [hcc]; rfl) ?_
    refine zj_tableIn (pc := 1) 28 C dX6_isChange_1 (by decide) (by decide) rfl (by decide) ?_
    refine zj_iload_n (pc := 28) C dX6_isChange_28 rfl ?_
    refine zj_ldc (pc := 29) (v := 1000000) C dX6_isChange_29 aq_390 ?_
    refine zj_icmp_ge (pc := 31) 44 C dX6_isChange_31 (by decide) (fun c_31 => ?_) (fun c_31 => ?_)
    · refine zj_iconst (pc := 44) (v := 0) C dX6_isChange_44 (by decide) ?_
      refine zj_zretF C hr hlocks dX6_isChange_45 ?_ rfl
      rw [show (1000000 : Int32) = nI 1000000 from rfl, nI_leI (by omega) (by omega)] at c_31
      unfold chB
      (simp [hcc, bI, c_31, Nat.not_lt, Nat.not_le] <;> omega)
    · refine zj_iload_n (pc := 34) C dX6_isChange_34 rfl ?_
      refine zj_ldc (pc := 35) (v := 1000000) C dX6_isChange_35 aq_390 ?_
      refine zj_icmp_lt (pc := 37) 44 C dX6_isChange_37 (by decide) (fun c_37 => ?_) (fun c_37 => ?_)
      · refine zj_iconst (pc := 44) (v := 0) C dX6_isChange_44 (by decide) ?_
        refine zj_zretF C hr hlocks dX6_isChange_45 ?_ rfl
        rw [show (1000000 : Int32) = nI 1000000 from rfl, nI_leI (by omega) (by omega)] at c_31
        rw [show (1000000 : Int32) = nI 1000000 from rfl, nI_ltI (by omega) (by omega)] at c_37
        unfold chB
        (simp [hcc, bI, c_31, c_37, Nat.not_lt, Nat.not_le] <;> omega)
      · refine zj_iconst (pc := 40) (v := 1) C dX6_isChange_40 (by decide) ?_
        refine zj_goto (pc := 41) (tgt := 45) C dX6_isChange_41 (by decide) ?_
        refine zj_zretF C hr hlocks dX6_isChange_45 ?_ rfl
        rw [show (1000000 : Int32) = nI 1000000 from rfl, nI_leI (by omega) (by omega)] at c_31
        rw [show (1000000 : Int32) = nI 1000000 from rfl, nI_ltI (by omega) (by omega)] at c_37
        unfold chB
        (simp [hcc, bI, c_31, c_37, Nat.not_lt, Nat.not_le] <;> omega)
  · refine zj_top (x' := 1) (by rw [hcc]; rfl) ?_
    refine zj_tableIn (pc := 1) 46 C dX6_isChange_1 (by decide) (by decide) rfl (by decide) ?_
    refine zj_iload_n (pc := 46) C dX6_isChange_46 rfl ?_
    refine zj_iload_n (pc := 47) C dX6_isChange_47 rfl ?_
    refine zj_icmp_ge (pc := 48) 61 C dX6_isChange_48 (by decide) (fun c_48 => ?_) (fun c_48 => ?_)
    · refine zj_iconst (pc := 61) (v := 0) C dX6_isChange_61 (by decide) ?_
      refine zj_zretF C hr hlocks dX6_isChange_62 ?_ rfl
      rw [nI_leI (by omega) (by omega)] at c_48
      unfold chB
      (simp [hcc, bI, c_48, Nat.not_lt, Nat.not_le] <;> omega)
    · refine zj_iload_n (pc := 51) C dX6_isChange_51 rfl ?_
      refine zj_ldc (pc := 52) (v := 1000000) C dX6_isChange_52 aq_390 ?_
      refine zj_icmp_ge (pc := 54) 61 C dX6_isChange_54 (by decide) (fun c_54 => ?_) (fun c_54 => ?_)
      · refine zj_iconst (pc := 61) (v := 0) C dX6_isChange_61 (by decide) ?_
        refine zj_zretF C hr hlocks dX6_isChange_62 ?_ rfl
        rw [nI_leI (by omega) (by omega)] at c_48
        rw [show (1000000 : Int32) = nI 1000000 from rfl, nI_leI (by omega) (by omega)] at c_54
        unfold chB
        (simp [hcc, bI, c_48, c_54, Nat.not_lt, Nat.not_le] <;> omega)
      · refine zj_iconst (pc := 57) (v := 1) C dX6_isChange_57 (by decide) ?_
        refine zj_goto (pc := 58) (tgt := 62) C dX6_isChange_58 (by decide) ?_
        refine zj_zretF C hr hlocks dX6_isChange_62 ?_ rfl
        rw [nI_leI (by omega) (by omega)] at c_48
        rw [show (1000000 : Int32) = nI 1000000 from rfl, nI_leI (by omega) (by omega)] at c_54
        unfold chB
        (simp [hcc, bI, c_48, c_54, Nat.not_lt, Nat.not_le] <;> omega)
  · refine zj_top (x' := 2) (by rw [hcc]; rfl) ?_
    refine zj_tableIn (pc := 1) 63 C dX6_isChange_1 (by decide) (by decide) rfl (by decide) ?_
    refine zj_iload_n (pc := 63) C dX6_isChange_63 rfl ?_
    refine zj_iload_n (pc := 64) C dX6_isChange_64 rfl ?_
    refine zj_icmp_ge (pc := 65) 78 C dX6_isChange_65 (by decide) (fun c_65 => ?_) (fun c_65 => ?_)
    · refine zj_iconst (pc := 78) (v := 0) C dX6_isChange_78 (by decide) ?_
      refine zj_zretF C hr hlocks dX6_isChange_79 ?_ rfl
      rw [nI_leI (by omega) (by omega)] at c_65
      unfold chB
      (simp [hcc, bI, c_65, Nat.not_lt, Nat.not_le] <;> omega)
    · refine zj_iload_n (pc := 68) C dX6_isChange_68 rfl ?_
      refine zj_ldc (pc := 69) (v := 1000000) C dX6_isChange_69 aq_390 ?_
      refine zj_icmp_ge (pc := 71) 78 C dX6_isChange_71 (by decide) (fun c_71 => ?_) (fun c_71 => ?_)
      · refine zj_iconst (pc := 78) (v := 0) C dX6_isChange_78 (by decide) ?_
        refine zj_zretF C hr hlocks dX6_isChange_79 ?_ rfl
        rw [nI_leI (by omega) (by omega)] at c_65
        rw [show (1000000 : Int32) = nI 1000000 from rfl, nI_leI (by omega) (by omega)] at c_71
        unfold chB
        (simp [hcc, bI, c_65, c_71, Nat.not_lt, Nat.not_le] <;> omega)
      · refine zj_iconst (pc := 74) (v := 1) C dX6_isChange_74 (by decide) ?_
        refine zj_goto (pc := 75) (tgt := 79) C dX6_isChange_75 (by decide) ?_
        refine zj_zretF C hr hlocks dX6_isChange_79 ?_ rfl
        rw [nI_leI (by omega) (by omega)] at c_65
        rw [show (1000000 : Int32) = nI 1000000 from rfl, nI_leI (by omega) (by omega)] at c_71
        unfold chB
        (simp [hcc, bI, c_65, c_71, Nat.not_lt, Nat.not_le] <;> omega)
  · refine zj_top (x' := 3) (by rw [hcc]; rfl) ?_
    refine zj_tableOut (pc := 1) 80 C dX6_isChange_1 (Or.inr (by decide)) (by decide) ?_
    refine zj_iload_n (pc := 80) C dX6_isChange_80 rfl ?_
    refine zj_ldc (pc := 81) (v := 1000000) C dX6_isChange_81 aq_390 ?_
    refine zj_icmp_lt (pc := 83) 96 C dX6_isChange_83 (by decide) (fun c_83 => ?_) (fun c_83 => ?_)
    · refine zj_iconst (pc := 96) (v := 0) C dX6_isChange_96 (by decide) ?_
      refine zj_zretF C hr hlocks dX6_isChange_97 ?_ rfl
      rw [show (1000000 : Int32) = nI 1000000 from rfl, nI_ltI (by omega) (by omega)] at c_83
      unfold chB
      (simp [hcc, bI, c_83, Nat.not_lt, Nat.not_le] <;> omega)
    · refine zj_iload_n (pc := 86) C dX6_isChange_86 rfl ?_
      refine zj_ldc (pc := 87) (v := 1000000) C dX6_isChange_87 aq_390 ?_
      refine zj_icmp_ge (pc := 89) 96 C dX6_isChange_89 (by decide) (fun c_89 => ?_) (fun c_89 => ?_)
      · refine zj_iconst (pc := 96) (v := 0) C dX6_isChange_96 (by decide) ?_
        refine zj_zretF C hr hlocks dX6_isChange_97 ?_ rfl
        rw [show (1000000 : Int32) = nI 1000000 from rfl, nI_ltI (by omega) (by omega)] at c_83
        rw [show (1000000 : Int32) = nI 1000000 from rfl, nI_leI (by omega) (by omega)] at c_89
        unfold chB
        (simp [hcc, bI, c_83, c_89, Nat.not_lt, Nat.not_le] <;> omega)
      · refine zj_iconst (pc := 92) (v := 1) C dX6_isChange_92 (by decide) ?_
        refine zj_goto (pc := 93) (tgt := 97) C dX6_isChange_93 (by decide) ?_
        refine zj_zretF C hr hlocks dX6_isChange_97 ?_ rfl
        rw [show (1000000 : Int32) = nI 1000000 from rfl, nI_ltI (by omega) (by omega)] at c_83
        rw [show (1000000 : Int32) = nI 1000000 from rfl, nI_leI (by omega) (by omega)] at c_89
        unfold chB
        (simp [hcc, bI, c_83, c_89, Nat.not_lt, Nat.not_le] <;> omega)
set_option maxRecDepth 100000 in
set_option maxHeartbeats 4000000 in
theorem m_X6_countChanges {l : Launch} {G : GG} {ad : Nat → Nat → Nat} {q : Nat → Nat → Nat} {P Pd Ps : PC} {kp : Bool} {HP : Nat → PC} {hn : Nat} {t : Nat → Nat} {tn : Nat} {T : T7} {W1 W2 : TC} {st : Bool} {g : Nat → Nat} {cc : Nat} (hP : PR g P) (hv : Vg g) (hW1 : TBT W1) (hW2 : TBT W2) (hcc : cc ≤ 3) : zX l G yX6_countChanges cX6_countChanges 5 (some .int) 2 45 0 0 [.ref (ad 0 0), .int (nI cc)] (cls G ad q P Pd Ps kp HP hn t tn T W1 W2 st) (zF (some (.int (nI (ccN (kA g) cc W1.2.2.2.1 W2.2.2.2.1)))) (cls G ad q P Pd Ps kp HP hn t tn T W1 W2 st)) := by
  refine zj_startF RX6 (by decide +kernel) rfl rfl rfl (bs := [[((ad 0 0), .inr (6, [.ref (ad 1 0), .ref (ad 2 0), .ref (ad 3 0), .int (bI kp), .ref (ad 4 0), .ref (ad 5 0), .ref (ad 6 0), .ref (ad 7 0), .int (bI st)]))], plan G (ad 1) P, plan G (ad 2) Pd, plan G (ad 3) Ps, hist G (ad 4) q HP hn, text G (ad 5 0) (ad 5 1) t tn T, totT G (ad 6) W1, totT G (ad 7) W2]) rfl (lo := [some (.ref (ad 0 0)), some (.int (nI cc)), none, none, none]) rfl ?_
  intro p0 e0 s0 m0 args0 below0 meth0 c0 A0 C hr hlocks
  have hk := hv.2.1
  refine zj_iconst (pc := 0) (v := 0) C dX6_countChanges_0 (by decide) ?_
  refine zj_istore_n (pc := 1) C dX6_countChanges_1 (Nat.le_of_ble_eq_true rfl) ?_
  refine zj_iconst (pc := 2) (v := 0) C dX6_countChanges_2 (by decide) ?_
  refine zj_istore_n (pc := 3) C dX6_countChanges_3 (Nat.le_of_ble_eq_true rfl) ?_
  refine zj_keep [true, true, true, true, false] ?_
  refine zj_loopW (σ := Nat) (fun x => x ≤ 14) (fun x => 14 - x) (fun x => [[((ad 0 0), .inr (6, [.ref (ad 1 0), .ref (ad 2 0), .ref (ad 3 0), .int (bI kp), .ref (ad 4 0), .ref (ad 5 0), .ref (ad 6 0), .ref (ad 7 0), .int (bI st)]))], plan G (ad 1) P, plan G (ad 2) Pd, plan G (ad 3) Ps, hist G (ad 4) q HP hn, text G (ad 5 0) (ad 5 1) t tn T, totT G (ad 6) W1, totT G (ad 7) W2]) (fun x => [some (.ref (ad 0 0)), some (.int (nI cc)), some (.int (nI (sumB (fun _ => true) (fun z => cntB (fun al => chB cc (W1.2.2.2.1 (z * 12 + al)) (W2.2.2.2.1 (z * 12 + al))) (kA g)) (x)))), some (.int (nI (x))), none]) ?_ 0 (Nat.zero_le _)
  intro i hi ih
  refine zj_iload_n (pc := 4) C dX6_countChanges_4 rfl ?_
  refine zj_bipush (pc := 5) (v := 14) C dX6_countChanges_5 (by decide) ?_
  refine zj_icmp_ge (pc := 7) 67 C dX6_countChanges_7 (by decide) (fun c_7 => ?_) (fun c_7 => ?_)
  · refine zj_iload_n (pc := 67) C dX6_countChanges_67 rfl ?_
    refine zj_iretF C hr hlocks dX6_countChanges_68 ?_ rfl
    rw [show i = 14 from Nat.le_antisymm hi (zle c_7 (by omega))]
    exact rfl
  · have hi14 : i < 14 := zlt c_7 (by omega)
    refine zj_iconst (pc := 10) (v := 0) C dX6_countChanges_10 (by decide) ?_
    refine zj_istore (pc := 11) C dX6_countChanges_11 (Nat.le_of_ble_eq_true rfl) ?_
    refine zj_keep [true, true, true, true, true] ?_
    refine zj_loopW (σ := Nat) (fun x => x ≤ kA g) (fun x => kA g - x) (fun x => [[((ad 0 0), .inr (6, [.ref (ad 1 0), .ref (ad 2 0), .ref (ad 3 0), .int (bI kp), .ref (ad 4 0), .ref (ad 5 0), .ref (ad 6 0), .ref (ad 7 0), .int (bI st)]))], plan G (ad 1) P, plan G (ad 2) Pd, plan G (ad 3) Ps, hist G (ad 4) q HP hn, text G (ad 5 0) (ad 5 1) t tn T, totT G (ad 6) W1, totT G (ad 7) W2]) (fun x => [some (.ref (ad 0 0)), some (.int (nI cc)), some (.int (nI (sumB (fun _ => true) (fun z => cntB (fun al => chB cc (W1.2.2.2.1 (z * 12 + al)) (W2.2.2.2.1 (z * 12 + al))) (kA g)) (i) + cntB (fun al => chB cc (W1.2.2.2.1 (i * 12 + al)) (W2.2.2.2.1 (i * 12 + al))) (x)))), some (.int (nI i)), some (.int (nI (x)))]) ?_ 0 (Nat.zero_le _)
    intro j hj ihj
    refine zj_iload (pc := 13) C dX6_countChanges_13 rfl ?_
    refine zj_aload_n (pc := 15) C dX6_countChanges_15 rfl ?_
    refine gf_X6_0 (pc := 16) C dX6_countChanges_16 0 rfl ?_
    refine zj_callP1 (pc := 19) C kv_X6_212 (m_X1_alleyCount hP) dX6_countChanges_19 1 rfl rfl rfl rfl rfl rfl rfl ⟨0, rfl⟩ rfl rfl ?_
    refine zj_top (x' := nI (kA g)) rfl ?_
    refine zj_icmp_ge (pc := 22) 61 C dX6_countChanges_22 (by decide) (fun c_22 => ?_) (fun c_22 => ?_)
    · refine zj_iinc (pc := 61) (v := nI (i + 1)) C dX6_countChanges_61 rfl (nI_1 _) ?_
      refine zj_goto (pc := 64) (tgt := 4) C dX6_countChanges_64 (by decide) ?_
      refine zj_keep [true, true, true, true, false] ?_
      exact zj_loc (lo' := [some (.ref (ad 0 0)), some (.int (nI cc)), some (.int (nI (sumB (fun _ => true) (fun x => cntB (fun al => chB cc (W1.2.2.2.1 (x * 12 + al)) (W2.2.2.2.1 (x * 12 + al))) (kA g)) (i + 1)))), some (.int (nI (i + 1))), none]) (by rw [show j = kA g from Nat.le_antisymm hj (zle c_22 (by omega)), sumB_t rfl]; rfl) (ih (i + 1) hi14 (by omega))
    · have hjl : j < kA g := zlt c_22 (by omega)
      refine zj_iload_n (pc := 25) C dX6_countChanges_25 rfl ?_
      refine zj_aload_n (pc := 26) C dX6_countChanges_26 rfl ?_
      refine gf_X6_6 (pc := 27) C dX6_countChanges_27 0 rfl ?_
      refine zj_iload_n (pc := 30) C dX6_countChanges_30 rfl ?_
      refine zj_iload (pc := 31) C dX6_countChanges_31 rfl ?_
      refine zj_callP1 (pc := 33) C kv_X6_190 (m_X4_sumFor hi14 (by omega)) dX6_countChanges_33 6 rfl rfl rfl rfl rfl rfl rfl ⟨0, rfl⟩ rfl rfl ?_
      refine zj_aload_n (pc := 36) C dX6_countChanges_36 rfl ?_
      refine gf_X6_7 (pc := 37) C dX6_countChanges_37 0 rfl ?_
      refine zj_iload_n (pc := 40) C dX6_countChanges_40 rfl ?_
      refine zj_iload (pc := 41) C dX6_countChanges_41 rfl ?_
      refine zj_callP1 (pc := 43) C kv_X6_190 (m_X4_sumFor hi14 (by omega)) dX6_countChanges_43 7 rfl rfl rfl rfl rfl rfl rfl ⟨0, rfl⟩ rfl rfl ?_
      refine zj_callSF (pc := 46) C kv_X6_268 (m_X6_isChange hcc (hW1.1.2.2.2.1 _ (by omega)) (hW2.1.2.2.2.1 _ (by omega))) dX6_countChanges_46 rfl rfl rfl rfl rfl rfl ?_
      refine zj_ifb_eq (pc := 49) 55 C dX6_countChanges_49 (by decide) (fun c_49 => ?_) (fun c_49 => ?_)
      · refine zj_iinc (pc := 55) (v := nI (j + 1)) C dX6_countChanges_55 rfl (nI_1 _) ?_
        refine zj_goto (pc := 58) (tgt := 13) C dX6_countChanges_58 (by decide) ?_
        exact zj_loc (lo' := [some (.ref (ad 0 0)), some (.int (nI cc)), some (.int (nI (sumB (fun _ => true) (fun x => cntB (fun al => chB cc (W1.2.2.2.1 (x * 12 + al)) (W2.2.2.2.1 (x * 12 + al))) (kA g)) (i) + cntB (fun al => chB cc (W1.2.2.2.1 (i * 12 + al)) (W2.2.2.2.1 (i * 12 + al))) (j + 1)))), some (.int (nI i)), some (.int (nI (j + 1)))]) (by rw [cntB_f (p := (fun al => chB cc (W1.2.2.2.1 (i * 12 + al)) (W2.2.2.2.1 (i * 12 + al)))) c_49]; rfl) (ihj (j + 1) hjl (by omega))
      · refine zj_iinc (pc := 52) (v := nI (sumB (fun _ => true) (fun x => cntB (fun al => chB cc (W1.2.2.2.1 (x * 12 + al)) (W2.2.2.2.1 (x * 12 + al))) (kA g)) (i) + (cntB (fun al => chB cc (W1.2.2.2.1 (i * 12 + al)) (W2.2.2.2.1 (i * 12 + al))) j + 1))) C dX6_countChanges_52 rfl (by rw [← Nat.add_assoc]; exact nI_1 _) ?_
        refine zj_iinc (pc := 55) (v := nI (j + 1)) C dX6_countChanges_55 rfl (nI_1 _) ?_
        refine zj_goto (pc := 58) (tgt := 13) C dX6_countChanges_58 (by decide) ?_
        exact zj_loc (lo' := [some (.ref (ad 0 0)), some (.int (nI cc)), some (.int (nI (sumB (fun _ => true) (fun x => cntB (fun al => chB cc (W1.2.2.2.1 (x * 12 + al)) (W2.2.2.2.1 (x * 12 + al))) (kA g)) (i) + cntB (fun al => chB cc (W1.2.2.2.1 (i * 12 + al)) (W2.2.2.2.1 (i * 12 + al))) (j + 1)))), some (.int (nI i)), some (.int (nI (j + 1)))]) (by rw [cntB_t (p := (fun al => chB cc (W1.2.2.2.1 (i * 12 + al)) (W2.2.2.2.1 (i * 12 + al)))) c_49]; rfl) (ihj (j + 1) hjl (by omega))
