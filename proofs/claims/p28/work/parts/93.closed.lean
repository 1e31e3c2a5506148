/-! THE LAW'S METHODS: a lane closed -/
theorem zY_X {l : Launch} {G : GG} {y : MethodName} {cc : ByteArray} {nL : Nat} {rt : Option FieldType} {fr lc : Nat} {av : List Value} {wc : va_W} {r : Value} {a : Nat} {g : Nat → Nat} {hn : Nat} {F : (Nat → PC) → Prop} {W : TC} (h : zY l G y cc nL rt fr lc av wc r (OB G a g hn F W)) : zY l G y cc nL rt fr lc av wc r (OBX G a g hn F) := by
  obtain ⟨Qu, hX, hQ⟩ := h
  exact ⟨Qu, hX, fun v w q => ⟨(hQ v w q).1, W, (hQ v w q).2⟩⟩
theorem qx_IC {l : Launch} {G : GG} {a : Nat} {g : Nat → Nat} {hn : Nat} {F : (Nat → PC) → Prop} {w0 : va_W} {x y r : Int32} (h : OBX G a g hn F w0) (ans : ∀ W, WOK g W → aIC g W x y = r) : zY l G yX6_ifClosed cX6_ifClosed 3 (some .int) 7 163 [.ref a, .int x, .int y] w0 (.int r) (OBX G a g hn F) := by
  obtain ⟨W, h⟩ := h
  obtain ⟨Qu, hX, hQ⟩ := q_IC (l := l) (x := x) (y := y) h
  exact ⟨Qu, hX, fun v w q => ⟨by rw [(hQ v w q).1, ans W (OB_v h).2.2], W, (hQ v w q).2⟩⟩
theorem cF_le2 (k c : Nat) (S1 : Nat → Nat) (F : Nat → Nat → Nat) : cF k c S1 F ≤ 14 * k := sumB_le _ _ k (fun x => cntB_le _ k) 14
theorem v_CL {g : Nat → Nat} (hv : Vg g) {k : Nat} (hk : k < kL g) (ht : told g k = true) : aCl g (nI k) true = nI (cntB (told (gCl g k 1)) (kL g)) ∧ gCS g (nI k) true = some (gCl g k 1) := by
  have h := (kb hv).1
  have h4 : lnC g k 4 = 0 := by
    unfold told at ht
    rw [Bool.and_eq_true] at ht
    simpa using ht.1
  have hn : ¬ (!(lnC g k 4 == 0)) = true := by simp [h4]
  constructor
  · unfold aCl
    rw [tHas_t hk h, if_pos rfl, nI_clamp (by omega), if_neg hn, if_pos rfl]
  · have hok : okCl g (nI k) true = true := by
      unfold okCl
      rw [tHas_t hk h, nI_clamp (by omega), decide_eq_false hn]
      rfl
    unfold gCS
    rw [if_pos hok, nI_clamp (by omega), if_pos rfl]
set_option maxRecDepth 100000 in
set_option maxHeartbeats 4000000 in
theorem m_L_isClosedSo {l : Launch} {G : GG} {a : Nat} {g : Nat → Nat} {hn : Nat} {F : (Nat → PC) → Prop} {w0 : va_W} {k : Nat} (h0 : OBX G a g hn F w0) (hk : k < kL g) : zX l G yL_isClosedSo cL_isClosedSo 6 (some .boolean) 9 207 0 0 [.ref a, .int (nI (k))] (w0) (zQ (.int 1) (fun w => ∃ hm, OBX G a g hm HT w)) := by
  obtain ⟨W, h⟩ := id h0
  have hv := (OB_v h).1
  have hW := (OB_v h).2.2
  have h4 := (OB_v h).2.1
  have h24 := hv.1
  have h12 := hv.2.1
  have hkk : k < 24 := by omega
  have hp0 := prN_le g (kA g)
  have hp1 := prN_le (gCl g k 1) (kA g)
  have hkA := kA_cl (g := g) (i := k) (v := 1) hkk
  have hNb := hN_b h4
  refine zj_startF RL (by decide +kernel) rfl rfl rfl (bs := [w0]) (by simp) (lo := [some (.ref a), some (.int (nI (k))), none, none, none, none]) rfl ?_
  intro p0 e0 s0 m0 args0 below0 meth0 c0 A0 C hr hlocks
  rcases ht : told g k with _ | _
  · refine zj_aload_n (pc := 0) C dL_isClosedSo_0 rfl ?_
    refine zj_iload_n (pc := 1) C dL_isClosedSo_1 rfl ?_
    refine zj_iconst (pc := 2) (v := 0) C dL_isClosedSo_2 (by decide) ?_
    refine zj_callQ (pc := 3) C kv_L_74 (qx_IC (r := 0) h0 (fun W hW => v_ICn hv (c := 0) hk (by decide) ht)) dL_isClosedSo_3 0 rfl rfl rfl rfl rfl rfl rfl (OBX_rec h0) rfl (fun u1 hu1 => ?_)
    refine zj_blk (bs' := [u1]) rfl ?_
    refine zj_istore_n (pc := 6) C dL_isClosedSo_6 (Nat.le_of_ble_eq_true rfl) ?_
    refine zj_aload_n (pc := 7) C dL_isClosedSo_7 rfl ?_
    refine zj_callS1 (pc := 8) C kv_L_77 (zY_of (m_L_pairs hu1)) dL_isClosedSo_8 0 rfl rfl rfl rfl rfl rfl rfl (fun u2 hu2 => ?_)
    refine zj_blk (bs' := [u2]) rfl ?_
    refine zj_istore_n (pc := 11) C dL_isClosedSo_11 (Nat.le_of_ble_eq_true rfl) ?_
    refine zj_aload_n (pc := 12) C dL_isClosedSo_12 rfl ?_
    refine zj_iload_n (pc := 13) C dL_isClosedSo_13 rfl ?_
    refine zj_bipush (pc := 14) (v := 6) C dL_isClosedSo_14 (by decide) ?_
    refine zj_callQ (pc := 16) C kv_L_44 (qx_LO hu2) dL_isClosedSo_16 0 rfl rfl rfl rfl rfl rfl rfl (OBX_rec hu2) rfl (fun u3 hu3 => ?_)
    refine zj_blk (bs' := [u3]) rfl ?_
    refine zj_top (x' := (0 : Int32)) ((v_LO6 hv hk).trans (by rw [ht]; rfl)) ?_
    refine zj_if_ne (pc := 19) 50 C dL_isClosedSo_19 (by decide) (fun cq_ => absurd (by decide) cq_) (fun _ => ?_)
    refine zj_iload_n (pc := 22) C dL_isClosedSo_22 rfl ?_
    refine zj_if_ne (pc := 23) 48 C dL_isClosedSo_23 (by decide) (fun cq_ => absurd (by decide) cq_) (fun _ => ?_)
    refine zj_aload_n (pc := 26) C dL_isClosedSo_26 rfl ?_
    refine zj_iload_n (pc := 27) C dL_isClosedSo_27 rfl ?_
    refine zj_iconst (pc := 28) (v := 1) C dL_isClosedSo_28 (by decide) ?_
    refine zj_callQ (pc := 29) C kv_L_74 (qx_IC (r := 0) hu3 (fun W hW => v_ICn hv (c := 1) hk (by decide) ht)) dL_isClosedSo_29 0 rfl rfl rfl rfl rfl rfl rfl (OBX_rec hu3) rfl (fun u4 hu4 => ?_)
    refine zj_blk (bs' := [u4]) rfl ?_
    refine zj_if_ne (pc := 32) 48 C dL_isClosedSo_32 (by decide) (fun cq_ => absurd (by decide) cq_) (fun _ => ?_)
    refine zj_aload_n (pc := 35) C dL_isClosedSo_35 rfl ?_
    refine zj_iload_n (pc := 36) C dL_isClosedSo_36 rfl ?_
    refine zj_iconst (pc := 37) (v := 2) C dL_isClosedSo_37 (by decide) ?_
    refine zj_callQ (pc := 38) C kv_L_74 (qx_IC (r := 0) hu4 (fun W hW => v_ICn hv (c := 2) hk (by decide) ht)) dL_isClosedSo_38 0 rfl rfl rfl rfl rfl rfl rfl (OBX_rec hu4) rfl (fun u5 hu5 => ?_)
    refine zj_blk (bs' := [u5]) rfl ?_
    refine zj_if_ne (pc := 41) 48 C dL_isClosedSo_41 (by decide) (fun cq_ => absurd (by decide) cq_) (fun _ => ?_)
    refine zj_iconst (pc := 44) (v := 1) C dL_isClosedSo_44 (by decide) ?_
    refine zj_goto (pc := 45) (tgt := 49) C dL_isClosedSo_45 (by decide) ?_
    refine zj_zret C hr hlocks dL_isClosedSo_49 (Or.inr rfl) ⟨rfl, ?_⟩
    rw [fl1]
    exact ⟨_, OBX_T hu5⟩
  · obtain ⟨Lc, hLc⟩ : ∃ Lc, Lc = cF (kA g) 0 W.2.2.2.1 (tSg g (wD g W k)) := ⟨_, rfl⟩
    have hLb : Lc ≤ 14 * kA g := by rw [hLc]; exact cF_le2 _ _ _ _
    have hlost := lost_ge hv hW hk
    rw [← hLc] at hlost
    refine zj_aload_n (pc := 0) C dL_isClosedSo_0 rfl ?_
    refine zj_iload_n (pc := 1) C dL_isClosedSo_1 rfl ?_
    refine zj_iconst (pc := 2) (v := 0) C dL_isClosedSo_2 (by decide) ?_
    refine zj_callQ (pc := 3) C kv_L_74 (zY_X (q_IC h)) dL_isClosedSo_3 0 rfl rfl rfl rfl rfl rfl rfl (OB_rec h) rfl (fun u6 hu6 => ?_)
    refine zj_blk (bs' := [u6]) rfl ?_
    refine zj_top (x' := nI (Lc)) ((v_IC0 hv hk ht).trans (by rw [← hLc])) ?_
    refine zj_istore_n (pc := 6) C dL_isClosedSo_6 (Nat.le_of_ble_eq_true rfl) ?_
    refine zj_aload_n (pc := 7) C dL_isClosedSo_7 rfl ?_
    refine zj_callS1 (pc := 8) C kv_L_77 (zY_of (m_L_pairs hu6)) dL_isClosedSo_8 0 rfl rfl rfl rfl rfl rfl rfl (fun u7 hu7 => ?_)
    refine zj_blk (bs' := [u7]) rfl ?_
    refine zj_istore_n (pc := 11) C dL_isClosedSo_11 (Nat.le_of_ble_eq_true rfl) ?_
    refine zj_aload_n (pc := 12) C dL_isClosedSo_12 rfl ?_
    refine zj_iload_n (pc := 13) C dL_isClosedSo_13 rfl ?_
    refine zj_bipush (pc := 14) (v := 6) C dL_isClosedSo_14 (by decide) ?_
    refine zj_callQ (pc := 16) C kv_L_44 (qx_LO hu7) dL_isClosedSo_16 0 rfl rfl rfl rfl rfl rfl rfl (OBX_rec hu7) rfl (fun u8 hu8 => ?_)
    refine zj_blk (bs' := [u8]) rfl ?_
    refine zj_top (x' := (1 : Int32)) ((v_LO6 hv hk).trans (by rw [ht]; rfl)) ?_
    refine zj_if_ne (pc := 19) 50 C dL_isClosedSo_19 (by decide) (fun _ => ?_) (fun cq_ => absurd cq_ (by decide))
    refine zj_aload_n (pc := 50) C dL_isClosedSo_50 rfl ?_
    refine zj_iconst (pc := 51) (v := 1) C dL_isClosedSo_51 (by decide) ?_
    refine zj_callQ (pc := 52) C kv_L_24 (qx_CT hu8 (fun W tn => v_CT1)) dL_isClosedSo_52 0 rfl rfl rfl rfl rfl rfl rfl (OBX_rec hu8) rfl (fun u9 hu9 => ?_)
    refine zj_blk (bs' := [u9]) rfl ?_
    refine zj_istore (pc := 55) C dL_isClosedSo_55 (Nat.le_of_ble_eq_true rfl) ?_
    refine zj_aload_n (pc := 57) C dL_isClosedSo_57 rfl ?_
    refine zj_iload_n (pc := 58) C dL_isClosedSo_58 rfl ?_
    refine zj_iconst (pc := 59) (v := 1) C dL_isClosedSo_59 (by decide) ?_
    refine zj_callQ (pc := 60) C kv_L_28 (a_CS (b := true) hu9) dL_isClosedSo_60 0 rfl rfl rfl rfl rfl rfl rfl (OBX_rec hu9) rfl (fun u10 hu10 => ?_)
    refine zj_blk (bs' := [u10]) rfl ?_
    rw [(v_CL hv hk ht).2] at hu10
    have hu10 : OBX G a (gCl g k 1) (hN hn) (HL g (hN hn)) _ := hu10
    refine zj_top (x' := nI (cntB (told (gCl g k 1)) (kL g))) (v_CL hv hk ht).1 ?_
    refine zj_iload (pc := 63) C dL_isClosedSo_63 rfl ?_
    refine zj_iconst (pc := 65) (v := 1) C dL_isClosedSo_65 (by decide) ?_
    refine zj_isub (pc := 66) C dL_isClosedSo_66 ?_
    refine zj_top (x' := nI (cntB (told (gCl g k 1)) (kL g))) (by rw [told_m1 hv hk ht]; exact nI_pred _) ?_
    refine zj_icmp_ne (pc := 67) 84 C dL_isClosedSo_67 (by decide) (fun cq_ => absurd rfl cq_) (fun _ => ?_)
    refine zj_iload_n (pc := 70) C dL_isClosedSo_70 rfl ?_
    refine zj_aload_n (pc := 71) C dL_isClosedSo_71 rfl ?_
    refine zj_callS1 (pc := 72) C kv_L_77 (zY_of (m_L_pairs hu10)) dL_isClosedSo_72 0 rfl rfl rfl rfl rfl rfl rfl (fun u11 hu11 => ?_)
    refine zj_blk (bs' := [u11]) rfl ?_
    refine zj_isub (pc := 75) C dL_isClosedSo_75 ?_
    refine zj_iload_n (pc := 76) C dL_isClosedSo_76 rfl ?_
    refine zj_icmp_gt (pc := 77) 84 C dL_isClosedSo_77 (by decide) (fun cq_ => absurd cq_ (by rw [hkA]; exact sub_le (by omega) (by omega) (by omega) hlost)) (fun _ => ?_)
    refine zj_iconst (pc := 80) (v := 1) C dL_isClosedSo_80 (by decide) ?_
    refine zj_goto (pc := 81) (tgt := 85) C dL_isClosedSo_81 (by decide) ?_
    refine zj_istore (pc := 85) C dL_isClosedSo_85 (Nat.le_of_ble_eq_true rfl) ?_
    refine zj_iload (pc := 87) C dL_isClosedSo_87 rfl ?_
    refine zj_if_eq (pc := 89) 121 C dL_isClosedSo_89 (by decide) (fun cq_ => absurd cq_ (by decide)) (fun _ => ?_)
    refine zj_aload_n (pc := 92) C dL_isClosedSo_92 rfl ?_
    refine zj_callQ (pc := 93) C kv_L_81 (a_UN hu11) dL_isClosedSo_93 0 rfl rfl rfl rfl rfl rfl rfl (OBX_rec hu11) rfl (fun u12 hu12 => ?_)
    refine zj_blk (bs' := [u12]) rfl ?_
    refine zj_if_lt (pc := 96) 121 C dL_isClosedSo_96 (by decide) (fun cq_ => absurd cq_ (mt (nI_ltI (a := hN hn - 1) (b := 0) (by omega) (by omega)).mp (by omega))) (fun _ => ?_)
    refine zj_aload_n (pc := 99) C dL_isClosedSo_99 rfl ?_
    refine zj_iconst (pc := 100) (v := 1) C dL_isClosedSo_100 (by decide) ?_
    refine zj_callQ (pc := 101) C kv_L_24 (qx_CT hu12 (fun W tn => v_CT1)) dL_isClosedSo_101 0 rfl rfl rfl rfl rfl rfl rfl (OBX_rec hu12) rfl (fun u13 hu13 => ?_)
    refine zj_blk (bs' := [u13]) rfl ?_
    refine zj_iload (pc := 104) C dL_isClosedSo_104 rfl ?_
    refine zj_icmp_ne (pc := 106) 121 C dL_isClosedSo_106 (by decide) (fun cq_ => absurd rfl cq_) (fun _ => ?_)
    refine zj_aload_n (pc := 109) C dL_isClosedSo_109 rfl ?_
    refine zj_callS1 (pc := 110) C kv_L_77 (zY_of (m_L_pairs hu13)) dL_isClosedSo_110 0 rfl rfl rfl rfl rfl rfl rfl (fun u14 hu14 => ?_)
    refine zj_blk (bs' := [u14]) rfl ?_
    refine zj_iload_n (pc := 113) C dL_isClosedSo_113 rfl ?_
    refine zj_icmp_ne (pc := 114) 121 C dL_isClosedSo_114 (by decide) (fun cq_ => absurd rfl cq_) (fun _ => ?_)
    refine zj_iconst (pc := 117) (v := 1) C dL_isClosedSo_117 (by decide) ?_
    refine zj_goto (pc := 118) (tgt := 122) C dL_isClosedSo_118 (by decide) ?_
    refine zj_zret C hr hlocks dL_isClosedSo_122 (Or.inr rfl) ⟨rfl, ?_⟩
    rw [fl1]
    exact ⟨_, hu14⟩
/-- a number of the script -/
def cV (L : Nat) (xs : Nat → Int32) (k : Nat) : Int32 := if k < L then xs k else nI (7919 * (k + 7) * (k + 331))
set_option maxRecDepth 100000 in
set_option maxHeartbeats 4000000 in
theorem m_L_cell {l : Launch} {G : GG} {b L k : Nat} {xs : Nat → Int32} (hL : L ≤ 260) (hk : k < 100) : zXs l G yL_cell cL_cell 2 (some .int) 0 0 b L xs [.ref b, .int (nI k)] (.int (cV L xs k)) := by
  refine zs_start (own := RL) (by decide +kernel) rfl rfl rfl (lo := [some (.ref b), some (.int (nI k))]) rfl ?_
  intro p e s m args below meth c A C hr hlocks hX hbl hbA
  refine zj_iload_n (pc := 0) C dL_cell_0 rfl ?_
  refine zj_aload_n (pc := 1) C dL_cell_1 rfl ?_
  refine zj_slen (pc := 2) C hX hbl hbA dL_cell_2 ?_
  refine zj_icmp_ge (pc := 3) 12 C dL_cell_3 (by decide) (fun c_3 => ?_) (fun c_3 => ?_)
  · have hge := (nI_leI (a := L) (b := k) (by omega) (by omega)).mp c_3
    refine zj_sipush (pc := 12) (v := 7919) C dL_cell_12 (by decide) ?_
    refine zj_iload_n (pc := 15) C dL_cell_15 rfl ?_
    refine zj_bipush (pc := 16) (v := 7) C dL_cell_16 (by decide) ?_
    refine zj_iadd (pc := 18) C dL_cell_18 ?_
    refine zj_top (x' := nI (k + 7)) (nI_add k 7) ?_
    refine zj_imul (pc := 19) C dL_cell_19 ?_
    refine zj_top (x' := nI (7919 * (k + 7))) (pk_mul 7919 (k + 7)) ?_
    refine zj_iload_n (pc := 20) C dL_cell_20 rfl ?_
    refine zj_sipush (pc := 21) (v := 331) C dL_cell_21 (by decide) ?_
    refine zj_iadd (pc := 24) C dL_cell_24 ?_
    refine zj_top (x' := nI (k + 331)) (nI_add k 331) ?_
    refine zj_imul (pc := 25) C dL_cell_25 ?_
    refine zj_top (x' := nI (7919 * (k + 7) * (k + 331))) (pk_mul (7919 * (k + 7)) (k + 331)) ?_
    exact zj_iretF C hr hlocks dL_cell_26 (if_neg (by omega)).symm rfl
  · have hlt : k < L := by have := mt (nI_leI (a := L) (b := k) (by omega) (by omega)).mpr c_3; omega
    refine zj_aload_n (pc := 6) C dL_cell_6 rfl ?_
    refine zj_iload_n (pc := 7) C dL_cell_7 rfl ?_
    refine zj_sld (pc := 8) k C hX hbl hbA hL dL_cell_8 rfl hlt ?_
    refine zj_goto (pc := 9) (tgt := 26) C dL_cell_9 (by decide) ?_
    exact zj_iretF C hr hlocks dL_cell_26 (if_pos hlt).symm rfl
