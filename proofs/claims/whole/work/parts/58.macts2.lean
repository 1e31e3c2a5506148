def hsl (gh : Nat → Nat) (n : Nat) : Nat → Nat := fun k => gh (177 * n + k)

set_option maxRecDepth 100000 in
set_option maxHeartbeats 4000000 in
theorem m_X7_takeLane {l : Launch} {G : GG} {m : Nat → Nat} {g ga gh : Nat → Nat} {kn : Nat} {gk : Nat → Nat} {kp : Bool} {tx : Nat → Nat} {ln : Nat} {iz wy wa tt rr we : Nat → Nat} {sp : Nat} {wr : Bool} {er : Int32} {x : Int32} (hv : Vg g) (hk : kn ≤ 4) : zX l G yX7_takeLane cX7_takeLane 3 (some .int) 2 43 0 0 [.ref (m 0), .int (x)] (mB G m g ga gh kn gk kp tx ln iz wy wa tt rr we sp wr er).flatten (zF (some (.int (if tHas (nI (kL g)) x then nI (kL g - 1) else -1))) (mB G m (if tHas (nI (kL g)) x = true then gRem g x.toNatClampNeg else g) ga (if tHas (nI (kL g)) x = true then rcH gh g kn else gh) (if tHas (nI (kL g)) x = true then rcN kn else kn) gk kp tx ln iz wy wa tt rr we sp wr er).flatten) := by
  refine zj_startF RX7 (by decide +kernel) rfl rfl rfl (bs := (mB G m g ga gh kn gk kp tx ln iz wy wa tt rr we sp wr er)) rfl (lo := [some (.ref (m 0)), some (.int (x)), none]) rfl ?_
  intro p0 e0 s0 m0 args0 below0 meth0 c0 A0 C hr hlocks
  have hvk := Vk_of hv
  have hk24 : kL g ≤ 24 := hv.1
  have hk12 : kA g ≤ 12 := hv.2.1
  refine zj_aload_n (pc := 0) C dX7_takeLane_0 rfl ?_
  refine zj_iload_n (pc := 1) C dX7_takeLane_1 rfl ?_
  refine zq_callP (pc := 2) C kv_X7_140 (m_X7_isLane hvk) dX7_takeLane_2 rfl rfl rfl rfl rfl rfl ⟨0, rfl⟩ rfl rfl ?_
  refine zj_ifb_ne (pc := 5) 10 C dX7_takeLane_5 (by decide) (fun c_5 => ?_) (fun c_5 => ?_)
  · obtain ⟨i, hi, rfl⟩ := tHas_s (by omega) c_5
    have ei : (nI i).toNatClampNeg = i := nI_clamp (by omega)
    refine zj_aload_n (pc := 10) C dX7_takeLane_10 rfl ?_
    refine zq_callFn (pc := 11) (bs' := (mB G m g ga (rcH gh g kn) (rcN kn) gk kp tx ln iz wy wa tt rr we sp wr er)) C kv_X7_134 (m_X7_record (by omega)) dX7_takeLane_11 rfl rfl rfl rfl rfl rfl ⟨0, rfl⟩ rfl rfl ?_
    refine zj_bipush (pc := 14) (v := nI 15) C dX7_takeLane_14 (by decide) ?_
    refine zj_iconst (pc := 16) (v := nI 5) C dX7_takeLane_16 (by decide) ?_
    refine zj_iload_n (pc := 17) C dX7_takeLane_17 rfl ?_
    refine zq_imul (pc := 18) C dX7_takeLane_18 ?_
    refine zq_iadd (pc := 19) C dX7_takeLane_19 ?_
    refine zj_istore_n (pc := 20) C dX7_takeLane_20 (Nat.le_of_ble_eq_true rfl) ?_
    refine zj_blk (bs' := (mB G m (shG g 5 (15 + 5 * i) (15 + 5 * i)) ga (rcH gh g kn) (rcN kn) gk kp tx ln iz wy wa tt rr we sp wr er)) (by rw [shG_0]) ?_
    refine zj_keep [true, true, true] ?_
    refine zq_loop1 (fun (j : Nat) => 15 + 5 * i ≤ j ∧ j ≤ 130) (fun (j : Nat) => 130 - j) (fun (j : Nat) => (mB G m (shG g 5 (15 + 5 * i) (j)) ga (rcH gh g kn) (rcN kn) gk kp tx ln iz wy wa tt rr we sp wr er)) (fun (j : Nat) => [some (.ref (m 0)), some (.int (nI (i))), some (.int (nI (j)))]) ?_ (15 + 5 * i) ⟨Nat.le_refl _, by omega⟩
    intro j hI ih_21
    obtain ⟨hj1, hj2⟩ := hI
    refine zj_iload_n (pc := 21) C dX7_takeLane_21 rfl ?_
    refine zj_sipush (pc := 22) (v := nI 130) C dX7_takeLane_22 (by decide) ?_
    refine zq_icmp_ge (pc := 25) 48 C dX7_takeLane_25 (by decide) (by omega) (by omega) (fun c_25 => ?_) (fun c_25 => ?_)
    · refine zj_blk (bs' := (mB G m (shG g 5 (15 + 5 * i) (130)) ga (rcH gh g kn) (rcN kn) gk kp tx ln iz wy wa tt rr we sp wr er)) (by rw [show j = 130 by omega]) ?_
      refine zj_aload_n (pc := 48) C dX7_takeLane_48 rfl ?_
      refine gf_X7_0 (pc := 49) C dX7_takeLane_49 0 rfl ?_
      refine zj_bipush (pc := 52) (v := nI 14) C dX7_takeLane_52 (by decide) ?_
      refine zj_dup2 (pc := 54) C dX7_takeLane_54 rfl rfl ?_
      refine zq_iald (pc := 55) C dX7_takeLane_55 1 rfl (by omega) (by decide) ?_
      refine zj_top (x' := nI (kL g)) (congrArg nI (if_neg (by omega))) ?_
      refine zj_iconst (pc := 56) (v := nI 1) C dX7_takeLane_56 (by decide) ?_
      refine zq_isub (pc := 57) C dX7_takeLane_57 (by omega) ?_
      refine zq_iast (pc := 58) C dX7_takeLane_58 1 rfl (by omega) (by decide) ?_
      refine zj_blk (bs' := (mB G m (updN (shG g 5 (15 + 5 * i) (130)) 14 ((kL g) - 1)) ga (rcH gh g kn) (rcN kn) gk kp tx ln iz wy wa tt rr we sp wr er)) rfl ?_
      refine zj_aload_n (pc := 59) C dX7_takeLane_59 rfl ?_
      refine gf_X7_0 (pc := 60) C dX7_takeLane_60 0 rfl ?_
      refine zj_bipush (pc := 63) (v := nI 14) C dX7_takeLane_63 (by decide) ?_
      refine zq_iald (pc := 65) C dX7_takeLane_65 1 rfl (by omega) (by decide) ?_
      refine zj_top (x' := nI (kL g - 1)) (congrArg nI uN_s) ?_
      exact zj_iretF C hr hlocks dX7_takeLane_66 (by rw [c_5]; rfl) (by rw [c_5, ei]; rfl)
    · refine zj_aload_n (pc := 28) C dX7_takeLane_28 rfl ?_
      refine gf_X7_0 (pc := 29) C dX7_takeLane_29 0 rfl ?_
      refine zj_iload_n (pc := 32) C dX7_takeLane_32 rfl ?_
      refine zj_aload_n (pc := 33) C dX7_takeLane_33 rfl ?_
      refine gf_X7_0 (pc := 34) C dX7_takeLane_34 0 rfl ?_
      refine zj_iload_n (pc := 37) C dX7_takeLane_37 rfl ?_
      refine zj_iconst (pc := 38) (v := nI 5) C dX7_takeLane_38 (by decide) ?_
      refine zq_iadd (pc := 39) C dX7_takeLane_39 ?_
      refine zq_iald (pc := 40) C dX7_takeLane_40 1 rfl (by omega) (by decide) ?_
      refine zq_iast (pc := 41) C dX7_takeLane_41 1 rfl (by omega) (by decide) ?_
      refine zj_blk (bs' := (mB G m (updN (shG g 5 (15 + 5 * i) (j)) j ((shG g 5 (15 + 5 * i) (j)) (j + 5))) ga (rcH gh g kn) (rcN kn) gk kp tx ln iz wy wa tt rr we sp wr er)) rfl ?_
      refine zj_iinc (pc := 42) (v := nI (j + 1)) C dX7_takeLane_42 rfl (nI_1 _) ?_
      refine zj_goto (pc := 45) (tgt := 21) C dX7_takeLane_45 (by decide) ?_
      refine zj_blk (bs' := (mB G m (shG g 5 (15 + 5 * i) (j + 1)) ga (rcH gh g kn) (rcN kn) gk kp tx ln iz wy wa tt rr we sp wr er)) (by rw [shG_s hj1 (by decide)]) ?_
      refine zj_keep [true, true, true] ?_
      exact ih_21 (j + 1) ⟨by omega, by omega⟩ (by omega)
  · refine zj_iconst (pc := 8) (v := (-1)) C dX7_takeLane_8 (by decide) ?_
    exact zj_iretF C hr hlocks dX7_takeLane_9 (by rw [c_5]; rfl) (by rw [c_5]; rfl)
set_option maxRecDepth 100000 in
set_option maxHeartbeats 4000000 in
theorem m_X7_takeAlley {l : Launch} {G : GG} {m : Nat → Nat} {g ga gh : Nat → Nat} {kn : Nat} {gk : Nat → Nat} {kp : Bool} {tx : Nat → Nat} {ln : Nat} {iz wy wa tt rr we : Nat → Nat} {sp : Nat} {wr : Bool} {er : Int32} {x : Int32} (hv : Vg g) (hk : kn ≤ 4) : zX l G yX7_takeAlley cX7_takeAlley 3 (some .int) 2 43 0 0 [.ref (m 0), .int (x)] (mB G m g ga gh kn gk kp tx ln iz wy wa tt rr we sp wr er).flatten (zF (some (.int (if tHas (nI (kA g)) x then nI (kA g - 1) else -1))) (mB G m (if tHas (nI (kA g)) x = true then gRemA g x.toNatClampNeg else g) ga (if tHas (nI (kA g)) x = true then rcH gh g kn else gh) (if tHas (nI (kA g)) x = true then rcN kn else kn) gk kp tx ln iz wy wa tt rr we sp wr er).flatten) := by
  refine zj_startF RX7 (by decide +kernel) rfl rfl rfl (bs := (mB G m g ga gh kn gk kp tx ln iz wy wa tt rr we sp wr er)) rfl (lo := [some (.ref (m 0)), some (.int (x)), none]) rfl ?_
  intro p0 e0 s0 m0 args0 below0 meth0 c0 A0 C hr hlocks
  have hvk := Vk_of hv
  have hk24 : kL g ≤ 24 := hv.1
  have hk12 : kA g ≤ 12 := hv.2.1
  refine zj_aload_n (pc := 0) C dX7_takeAlley_0 rfl ?_
  refine zj_iload_n (pc := 1) C dX7_takeAlley_1 rfl ?_
  refine zq_callP (pc := 2) C kv_X7_154 (m_X7_isAlley hvk) dX7_takeAlley_2 rfl rfl rfl rfl rfl rfl ⟨0, rfl⟩ rfl rfl ?_
  refine zj_ifb_ne (pc := 5) 10 C dX7_takeAlley_5 (by decide) (fun c_5 => ?_) (fun c_5 => ?_)
  · obtain ⟨i, hi, rfl⟩ := tHas_s (by omega) c_5
    have ei : (nI i).toNatClampNeg = i := nI_clamp (by omega)
    refine zj_aload_n (pc := 10) C dX7_takeAlley_10 rfl ?_
    refine zq_callFn (pc := 11) (bs' := (mB G m g ga (rcH gh g kn) (rcN kn) gk kp tx ln iz wy wa tt rr we sp wr er)) C kv_X7_134 (m_X7_record (by omega)) dX7_takeAlley_11 rfl rfl rfl rfl rfl rfl ⟨0, rfl⟩ rfl rfl ?_
    refine zj_sipush (pc := 14) (v := nI 141) C dX7_takeAlley_14 (by decide) ?_
    refine zj_iconst (pc := 17) (v := nI 3) C dX7_takeAlley_17 (by decide) ?_
    refine zj_iload_n (pc := 18) C dX7_takeAlley_18 rfl ?_
    refine zq_imul (pc := 19) C dX7_takeAlley_19 ?_
    refine zq_iadd (pc := 20) C dX7_takeAlley_20 ?_
    refine zj_istore_n (pc := 21) C dX7_takeAlley_21 (Nat.le_of_ble_eq_true rfl) ?_
    refine zj_blk (bs' := (mB G m (shG g 3 (141 + 3 * i) (141 + 3 * i)) ga (rcH gh g kn) (rcN kn) gk kp tx ln iz wy wa tt rr we sp wr er)) (by rw [shG_0]) ?_
    refine zj_keep [true, true, true] ?_
    refine zq_loop1 (fun (j : Nat) => 141 + 3 * i ≤ j ∧ j ≤ 174) (fun (j : Nat) => 174 - j) (fun (j : Nat) => (mB G m (shG g 3 (141 + 3 * i) (j)) ga (rcH gh g kn) (rcN kn) gk kp tx ln iz wy wa tt rr we sp wr er)) (fun (j : Nat) => [some (.ref (m 0)), some (.int (nI (i))), some (.int (nI (j)))]) ?_ (141 + 3 * i) ⟨Nat.le_refl _, by omega⟩
    intro j hI ih_22
    obtain ⟨hj1, hj2⟩ := hI
    refine zj_iload_n (pc := 22) C dX7_takeAlley_22 rfl ?_
    refine zj_sipush (pc := 23) (v := nI 174) C dX7_takeAlley_23 (by decide) ?_
    refine zq_icmp_ge (pc := 26) 49 C dX7_takeAlley_26 (by decide) (by omega) (by omega) (fun c_26 => ?_) (fun c_26 => ?_)
    · refine zj_blk (bs' := (mB G m (shG g 3 (141 + 3 * i) (174)) ga (rcH gh g kn) (rcN kn) gk kp tx ln iz wy wa tt rr we sp wr er)) (by rw [show j = 174 by omega]) ?_
      refine zj_aload_n (pc := 49) C dX7_takeAlley_49 rfl ?_
      refine gf_X7_0 (pc := 50) C dX7_takeAlley_50 0 rfl ?_
      refine zj_sipush (pc := 53) (v := nI 140) C dX7_takeAlley_53 (by decide) ?_
      refine zj_dup2 (pc := 56) C dX7_takeAlley_56 rfl rfl ?_
      refine zq_iald (pc := 57) C dX7_takeAlley_57 1 rfl (by omega) (by decide) ?_
      refine zj_top (x' := nI (kA g)) (congrArg nI (if_neg (by omega))) ?_
      refine zj_iconst (pc := 58) (v := nI 1) C dX7_takeAlley_58 (by decide) ?_
      refine zq_isub (pc := 59) C dX7_takeAlley_59 (by omega) ?_
      refine zq_iast (pc := 60) C dX7_takeAlley_60 1 rfl (by omega) (by decide) ?_
      refine zj_blk (bs' := (mB G m (updN (shG g 3 (141 + 3 * i) (174)) 140 ((kA g) - 1)) ga (rcH gh g kn) (rcN kn) gk kp tx ln iz wy wa tt rr we sp wr er)) rfl ?_
      refine zj_aload_n (pc := 61) C dX7_takeAlley_61 rfl ?_
      refine gf_X7_0 (pc := 62) C dX7_takeAlley_62 0 rfl ?_
      refine zj_sipush (pc := 65) (v := nI 140) C dX7_takeAlley_65 (by decide) ?_
      refine zq_iald (pc := 68) C dX7_takeAlley_68 1 rfl (by omega) (by decide) ?_
      refine zj_top (x' := nI (kA g - 1)) (congrArg nI uN_s) ?_
      exact zj_iretF C hr hlocks dX7_takeAlley_69 (by rw [c_5]; rfl) (by rw [c_5, ei]; rfl)
    · refine zj_aload_n (pc := 29) C dX7_takeAlley_29 rfl ?_
      refine gf_X7_0 (pc := 30) C dX7_takeAlley_30 0 rfl ?_
      refine zj_iload_n (pc := 33) C dX7_takeAlley_33 rfl ?_
      refine zj_aload_n (pc := 34) C dX7_takeAlley_34 rfl ?_
      refine gf_X7_0 (pc := 35) C dX7_takeAlley_35 0 rfl ?_
      refine zj_iload_n (pc := 38) C dX7_takeAlley_38 rfl ?_
      refine zj_iconst (pc := 39) (v := nI 3) C dX7_takeAlley_39 (by decide) ?_
      refine zq_iadd (pc := 40) C dX7_takeAlley_40 ?_
      refine zq_iald (pc := 41) C dX7_takeAlley_41 1 rfl (by omega) (by decide) ?_
      refine zq_iast (pc := 42) C dX7_takeAlley_42 1 rfl (by omega) (by decide) ?_
      refine zj_blk (bs' := (mB G m (updN (shG g 3 (141 + 3 * i) (j)) j ((shG g 3 (141 + 3 * i) (j)) (j + 3))) ga (rcH gh g kn) (rcN kn) gk kp tx ln iz wy wa tt rr we sp wr er)) rfl ?_
      refine zj_iinc (pc := 43) (v := nI (j + 1)) C dX7_takeAlley_43 rfl (nI_1 _) ?_
      refine zj_goto (pc := 46) (tgt := 22) C dX7_takeAlley_46 (by decide) ?_
      refine zj_blk (bs' := (mB G m (shG g 3 (141 + 3 * i) (j + 1)) ga (rcH gh g kn) (rcN kn) gk kp tx ln iz wy wa tt rr we sp wr er)) (by rw [shG_s hj1 (by decide)]) ?_
      refine zj_keep [true, true, true] ?_
      exact ih_22 (j + 1) ⟨by omega, by omega⟩ (by omega)
  · refine zj_iconst (pc := 8) (v := (-1)) C dX7_takeAlley_8 (by decide) ?_
    exact zj_iretF C hr hlocks dX7_takeAlley_9 (by rw [c_5]; rfl) (by rw [c_5]; rfl)
set_option maxRecDepth 100000 in
set_option maxHeartbeats 4000000 in
theorem m_X7_close {l : Launch} {G : GG} {m : Nat → Nat} {g ga gh : Nat → Nat} {kn : Nat} {gk : Nat → Nat} {kp : Bool} {tx : Nat → Nat} {ln : Nat} {iz wy wa tt rr we : Nat → Nat} {sp : Nat} {wr : Bool} {er : Int32} {x : Int32} {b : Bool} (hv : Vg g) (hk : kn ≤ 4) : zX l G yX7_close cX7_close 3 (some .int) 4 89 0 0 [.ref (m 0), .int (x), .int (bI (b))] (mB G m g ga gh kn gk kp tx ln iz wy wa tt rr we sp wr er).flatten (zF (some (.int (aCl g x b))) (mB G m (if okCl g x b = true then gCl g x.toNatClampNeg (if b then 1 else 0) else g) ga (if okCl g x b = true then rcH gh g kn else gh) (if okCl g x b = true then rcN kn else kn) gk kp tx ln iz wy wa tt rr we sp wr er).flatten) := by
  refine zj_startF RX7 (by decide +kernel) rfl rfl rfl (bs := (mB G m g ga gh kn gk kp tx ln iz wy wa tt rr we sp wr er)) rfl (lo := [some (.ref (m 0)), some (.int (x)), some (.int (bI (b)))]) rfl ?_
  intro p0 e0 s0 m0 args0 below0 meth0 c0 A0 C hr hlocks
  have hvk := Vk_of hv
  have hk24 : kL g ≤ 24 := hv.1
  refine zj_aload_n (pc := 0) C dX7_close_0 rfl ?_
  refine zj_iload_n (pc := 1) C dX7_close_1 rfl ?_
  refine zq_callP (pc := 2) C kv_X7_140 (m_X7_isLane hvk) dX7_close_2 rfl rfl rfl rfl rfl rfl ⟨0, rfl⟩ rfl rfl ?_
  refine zj_ifb_ne (pc := 5) 10 C dX7_close_5 (by decide) (fun c_5 => ?_) (fun c_5 => ?_)
  · obtain ⟨i, hi, rfl⟩ := tHas_s (by omega) c_5
    have ei : (nI i).toNatClampNeg = i := nI_clamp (by omega)
    obtain ⟨-, x0, x1, x2, l1, l2, l3, l4⟩ := Vk_x hvk hi
    have e4 : (!(lnC g i 4 == 0)) = decide (lnC g i 4 = 1) := by rcases (show lnC g i 4 = 0 ∨ lnC g i 4 = 1 by omega) with h | h <;> rw [h] <;> rfl
    refine zj_aload_n (pc := 10) C dX7_close_10 rfl ?_
    refine zj_iload_n (pc := 11) C dX7_close_11 rfl ?_
    refine zj_iconst (pc := 12) (v := nI 4) C dX7_close_12 (by decide) ?_
    refine zq_callP (pc := 13) C kv_X7_51 (m_X7_of (by omega) (by decide)) dX7_close_13 rfl rfl rfl rfl rfl rfl ⟨0, rfl⟩ rfl rfl ?_
    refine zj_iconst (pc := 16) (v := nI 1) C dX7_close_16 (by decide) ?_
    refine zq_mrg 25 [] (bI (decide (lnC g i 4 = 1))) ?_ (fun kk => ?_)
    · refine zj_iload_n (pc := 25) C dX7_close_25 rfl ?_
      refine zj_icmp_ne (pc := 26) 32 C dX7_close_26 (by decide) (fun c_26 => ?_) (fun c_26 => ?_)
      · have hb : ¬ decide (lnC g i 4 = 1) = b := fun h => c_26 (congrArg bI h)
        have ho : okCl g (nI i) b = true ∧ aCl g (nI i) b = nI (cntB (told (gCl g i (if b then 1 else 0))) (kL g)) := by unfold okCl aCl; rw [c_5, ei, e4]; exact ⟨by simp [hb], (if_pos rfl).trans (if_neg hb)⟩
        refine zj_aload_n (pc := 32) C dX7_close_32 rfl ?_
        refine zq_callFn (pc := 33) (bs' := (mB G m g ga (rcH gh g kn) (rcN kn) gk kp tx ln iz wy wa tt rr we sp wr er)) C kv_X7_134 (m_X7_record (by omega)) dX7_close_33 rfl rfl rfl rfl rfl rfl ⟨0, rfl⟩ rfl rfl ?_
        refine zj_aload_n (pc := 36) C dX7_close_36 rfl ?_
        refine gf_X7_0 (pc := 37) C dX7_close_37 0 rfl ?_
        refine zj_bipush (pc := 40) (v := nI 15) C dX7_close_40 (by decide) ?_
        refine zj_iconst (pc := 42) (v := nI 5) C dX7_close_42 (by decide) ?_
        refine zj_iload_n (pc := 43) C dX7_close_43 rfl ?_
        refine zq_imul (pc := 44) C dX7_close_44 ?_
        refine zq_iadd (pc := 45) C dX7_close_45 ?_
        refine zj_iconst (pc := 46) (v := nI 4) C dX7_close_46 (by decide) ?_
        refine zq_iadd (pc := 47) C dX7_close_47 ?_
        refine zq_mrg 57 [.int (nI (15 + (5 * i) + 4)), .ref (m 1)] (nI (if b then 1 else 0)) ?_ (fun kk => ?_)
        · refine zq_iast (pc := 57) C dX7_close_57 1 rfl (by omega) (by decide) ?_
          refine zj_blk (bs' := (mB G m (updN g (15 + (5 * i) + 4) (if b then 1 else 0)) ga (rcH gh g kn) (rcN kn) gk kp tx ln iz wy wa tt rr we sp wr er)) rfl ?_
          have hkc : kL (gCl g i (if b then 1 else 0)) = kL g := if_neg (by omega)
          refine zj_blk (bs' := (mB G m (gCl g i (if b then 1 else 0)) ga (rcH gh g kn) (rcN kn) gk kp tx ln iz wy wa tt rr we sp wr er)) rfl ?_
          refine zj_aload_n (pc := 58) C dX7_close_58 rfl ?_
          refine zq_callP (pc := 59) C kv_X7_143 (m_X7_toldLanes (Vk_of (Vg_cl hv hi (by split <;> omega)))) dX7_close_59 rfl rfl rfl rfl rfl rfl ⟨0, rfl⟩ rfl rfl ?_
          exact zj_iretF C hr hlocks dX7_close_62 (by rw [ho.2, hkc]) (by rw [ho.1, ei]; rfl)
        · refine zj_iload_n (pc := 48) C dX7_close_48 rfl ?_
          refine zj_ifb_eq (pc := 49) 56 C dX7_close_49 (by decide) (fun c_49 => ?_) (fun c_49 => ?_)
          · refine zj_iconst (pc := 56) (v := nI 0) C dX7_close_56 (by decide) ?_
            exact zj_top (x' := nI (if b then 1 else 0)) (by rw [c_49]; rfl) kk
          · refine zj_iconst (pc := 52) (v := nI 1) C dX7_close_52 (by decide) ?_
            refine zj_goto (pc := 53) (tgt := 57) C dX7_close_53 (by decide) ?_
            exact zj_top (x' := nI (if b then 1 else 0)) (by rw [c_49]; rfl) kk
      · have hb := bI_inj.mp c_26
        have ho : okCl g (nI i) b = false ∧ aCl g (nI i) b = -5 := by unfold okCl aCl; rw [c_5, ei, e4, hb]; exact ⟨by simp, (if_pos rfl).trans (if_pos rfl)⟩
        refine zj_bipush (pc := 29) (v := (-5)) C dX7_close_29 (by decide) ?_
        exact zj_iretF C hr hlocks dX7_close_31 (by rw [ho.2]) (by rw [ho.1]; rfl)
    · refine zq_icmp_ne (pc := 17) 24 C dX7_close_17 (by decide) (by omega) (by omega) (fun c_17 => ?_) (fun c_17 => ?_)
      · refine zj_iconst (pc := 24) (v := nI 0) C dX7_close_24 (by decide) ?_
        exact zj_top (x' := bI (decide (lnC g i 4 = 1))) (zq_f (by first | rfl | (simp [c_17]; done) | (simp [c_17]; omega) | omega | (split <;> first | rfl | omega))) kk
      · refine zj_iconst (pc := 20) (v := nI 1) C dX7_close_20 (by decide) ?_
        refine zj_goto (pc := 21) (tgt := 25) C dX7_close_21 (by decide) ?_
        exact zj_top (x' := bI (decide (lnC g i 4 = 1))) (zq_t (by first | rfl | (simp [c_17]; done) | (simp [c_17]; omega) | omega | (split <;> first | rfl | omega))) kk
  · have ho : okCl g x b = false ∧ aCl g x b = -1 := by unfold okCl aCl; rw [c_5]; exact ⟨rfl, rfl⟩
    refine zj_iconst (pc := 8) (v := (-1)) C dX7_close_8 (by decide) ?_
    exact zj_iretF C hr hlocks dX7_close_9 (by rw [ho.2]) (by rw [ho.1]; rfl)
set_option maxRecDepth 100000 in
set_option maxHeartbeats 4000000 in
theorem m_X7_rank {l : Launch} {G : GG} {m : Nat → Nat} {g ga gh : Nat → Nat} {kn : Nat} {gk : Nat → Nat} {kp : Bool} {tx : Nat → Nat} {ln : Nat} {iz wy wa tt rr we : Nat → Nat} {sp : Nat} {wr : Bool} {er : Int32} {x r : Int32} (hv : Vg g) (hk : kn ≤ 4) : zX l G yX7_rank cX7_rank 4 (some .int) 2 42 0 0 [.ref (m 0), .int (x), .int (r)] (mB G m g ga gh kn gk kp tx ln iz wy wa tt rr we sp wr er).flatten (zF (some (.int (aRk g x r))) (mB G m (if okRk g x r = true then gRk g x.toNatClampNeg r.toNatClampNeg else g) ga (if okRk g x r = true then rcH gh g kn else gh) (if okRk g x r = true then rcN kn else kn) gk kp tx ln iz wy wa tt rr we sp wr er).flatten) := by
  refine zj_startF RX7 (by decide +kernel) rfl rfl rfl (bs := (mB G m g ga gh kn gk kp tx ln iz wy wa tt rr we sp wr er)) rfl (lo := [some (.ref (m 0)), some (.int (x)), some (.int (r)), none]) rfl ?_
  intro p0 e0 s0 m0 args0 below0 meth0 c0 A0 C hr hlocks
  have hvk := Vk_of hv
  refine zj_iload_n (pc := 0) C dX7_rank_0 rfl ?_
  refine zj_callSF (pc := 1) C kv_X7_125 (m_X7_isCrossing) dX7_rank_1 rfl rfl rfl rfl rfl rfl ?_
  refine zj_ifb_ne (pc := 4) 9 C dX7_rank_4 (by decide) (fun c_4 => ?_) (fun c_4 => ?_)
  · obtain ⟨x0, hx, rfl⟩ := isC_n c_4
    have ex : (nI x0).toNatClampNeg = x0 := nI_clamp (by omega)
    have r9 := hv.2.2.1 x0 hx
    refine zj_iload_n (pc := 9) C dX7_rank_9 rfl ?_
    refine zj_iconst (pc := 10) (v := nI 0) C dX7_rank_10 (by decide) ?_
    refine zj_bipush (pc := 11) (v := nI 9) C dX7_rank_11 (by decide) ?_
    refine zj_callSF (pc := 13) C kv_X7_43 (m_X7_in) dX7_rank_13 rfl rfl rfl rfl rfl rfl ?_
    refine zj_ifb_ne (pc := 16) 22 C dX7_rank_16 (by decide) (fun c_16 => ?_) (fun c_16 => ?_)
    · have hr2 : ¬ r < 0 ∧ ¬ 9 < r := by have h2 := c_16; unfold inB at h2; simp at h2; exact ⟨Int32.not_lt.mpr h2.1, Int32.not_lt.mpr h2.2⟩
      have hnor : ¬ (r < 0 ∨ 9 < r) := fun h => h.elim hr2.1 hr2.2
      have hr1 := hr2.1
      have hr3 := hr2.2
      obtain ⟨r0, hr0, rfl⟩ := nI_of2 (x := r) (M := 9) (n := 9) rfl hr1 (Int32.not_lt.mp hr3)
      have er9 : (nI r0).toNatClampNeg = r0 := nI_clamp (by omega)
      refine zj_aload_n (pc := 22) C dX7_rank_22 rfl ?_
      refine gf_X7_0 (pc := 23) C dX7_rank_23 0 rfl ?_
      refine zj_iconst (pc := 26) (v := nI 0) C dX7_rank_26 (by decide) ?_
      refine zj_iload_n (pc := 27) C dX7_rank_27 rfl ?_
      refine zq_iadd (pc := 28) C dX7_rank_28 ?_
      refine zj_top (x' := nI (x0)) (congrArg nI (Nat.zero_add _)) ?_
      refine zq_iald (pc := 29) C dX7_rank_29 1 rfl (by omega) (by decide) ?_
      refine zj_istore_n (pc := 30) C dX7_rank_30 (Nat.le_of_ble_eq_true rfl) ?_
      refine zj_iload_n (pc := 31) C dX7_rank_31 rfl ?_
      refine zj_iload_n (pc := 32) C dX7_rank_32 rfl ?_
      refine zq_icmp_ne (pc := 33) 39 C dX7_rank_33 (by decide) (by omega) (by omega) (fun c_33 => ?_) (fun c_33 => ?_)
      · have hne : ¬ nI (g x0) = nI r0 := fun h => c_33 ((nI_eq (by omega) (by omega)).mp h)
        have ho : okRk g (nI x0) (nI r0) = true ∧ aRk g (nI x0) (nI r0) = nI (g x0) := by unfold okRk aRk; rw [c_4, if_pos rfl, if_neg hnor, ex, if_neg hne]; exact ⟨by simp [hr1, hr3, hne], rfl⟩
        refine zj_aload_n (pc := 39) C dX7_rank_39 rfl ?_
        refine zq_callFn (pc := 40) (bs' := (mB G m g ga (rcH gh g kn) (rcN kn) gk kp tx ln iz wy wa tt rr we sp wr er)) C kv_X7_134 (m_X7_record (by omega)) dX7_rank_40 rfl rfl rfl rfl rfl rfl ⟨0, rfl⟩ rfl rfl ?_
        refine zj_aload_n (pc := 43) C dX7_rank_43 rfl ?_
        refine gf_X7_0 (pc := 44) C dX7_rank_44 0 rfl ?_
        refine zj_iconst (pc := 47) (v := nI 0) C dX7_rank_47 (by decide) ?_
        refine zj_iload_n (pc := 48) C dX7_rank_48 rfl ?_
        refine zq_iadd (pc := 49) C dX7_rank_49 ?_
        refine zj_top (x' := nI (x0)) (congrArg nI (Nat.zero_add _)) ?_
        refine zj_iload_n (pc := 50) C dX7_rank_50 rfl ?_
        refine zq_iast (pc := 51) C dX7_rank_51 1 rfl (by omega) (by decide) ?_
        refine zj_blk (bs' := (mB G m (updN g x0 r0) ga (rcH gh g kn) (rcN kn) gk kp tx ln iz wy wa tt rr we sp wr er)) rfl ?_
        refine zj_iload_n (pc := 52) C dX7_rank_52 rfl ?_
        exact zj_iretF C hr hlocks dX7_rank_53 (by rw [ho.2]) (by rw [ho.1, ex, er9]; rfl)
      · have ho : okRk g (nI x0) (nI r0) = false ∧ aRk g (nI x0) (nI r0) = -5 := by unfold okRk aRk; rw [c_4, if_pos rfl, if_neg hnor, ex, c_33, if_pos rfl]; exact ⟨by simp, rfl⟩
        refine zj_bipush (pc := 36) (v := (-5)) C dX7_rank_36 (by decide) ?_
        exact zj_iretF C hr hlocks dX7_rank_38 (by rw [ho.2]) (by rw [ho.1]; rfl)
    · have hor : r < 0 ∨ 9 < r := by have h := c_16; unfold inB at h; simp at h; by_cases h1 : r < 0; exact Or.inl h1; exact Or.inr (h (Int32.not_lt.mp h1))
      have ho : okRk g (nI x0) r = false ∧ aRk g (nI x0) r = -2 := by unfold okRk aRk; rw [c_4, if_pos rfl, if_pos hor]; exact ⟨by rcases hor with h | h <;> simp [h], rfl⟩
      refine zj_bipush (pc := 19) (v := (-2)) C dX7_rank_19 (by decide) ?_
      exact zj_iretF C hr hlocks dX7_rank_21 (by rw [ho.2]) (by rw [ho.1]; rfl)
  · have ho : okRk g x r = false ∧ aRk g x r = -1 := by unfold okRk aRk; rw [c_4]; exact ⟨rfl, rfl⟩
    refine zj_iconst (pc := 7) (v := (-1)) C dX7_rank_7 (by decide) ?_
    exact zj_iretF C hr hlocks dX7_rank_8 (by rw [ho.2]) (by rw [ho.1]; rfl)
set_option maxRecDepth 100000 in
set_option maxHeartbeats 4000000 in
theorem m_X7_undo {l : Launch} {G : GG} {m : Nat → Nat} {g ga gh : Nat → Nat} {kn : Nat} {gk : Nat → Nat} {kp : Bool} {tx : Nat → Nat} {ln : Nat} {iz wy wa tt rr we : Nat → Nat} {sp : Nat} {wr : Bool} {er : Int32} (hk : kn ≤ 4) : zX l G yX7_undo cX7_undo 2 (some .int) 0 0 0 0 [.ref (m 0)] (mB G m g ga gh kn gk kp tx ln iz wy wa tt rr we sp wr er).flatten (zF (some (.int (if kn = 0 then -5 else nI (kn - 1)))) (mB G m (if kn = 0 then g else hsl gh (kn - 1)) ga gh (kn - 1) gk kp tx ln iz wy wa tt rr we sp wr er).flatten) := by
  refine zj_startF RX7 (by decide +kernel) rfl rfl rfl (bs := (mB G m g ga gh kn gk kp tx ln iz wy wa tt rr we sp wr er)) rfl (lo := [some (.ref (m 0)), none]) rfl ?_
  intro p0 e0 s0 m0 args0 below0 meth0 c0 A0 C hr hlocks
  refine zj_aload_n (pc := 0) C dX7_undo_0 rfl ?_
  refine gf_X7_3 (pc := 1) C dX7_undo_1 0 rfl ?_
  refine zq_if_ne (pc := 4) 10 C dX7_undo_4 (by decide) (by omega) (fun c_4 => ?_) (fun c_4 => ?_)
  · refine zj_aload_n (pc := 10) C dX7_undo_10 rfl ?_
    refine zj_dup (pc := 11) C dX7_undo_11 rfl ?_
    refine gf_X7_3 (pc := 12) C dX7_undo_12 0 rfl ?_
    refine zj_iconst (pc := 15) (v := nI 1) C dX7_undo_15 (by decide) ?_
    refine zq_isub (pc := 16) C dX7_undo_16 (by omega) ?_
    refine pf_X7_3 (pc := 17) C dX7_undo_17 0 rfl ?_
    refine zj_blk (bs' := (mB G m g ga gh (kn - 1) gk kp tx ln iz wy wa tt rr we sp wr er)) rfl ?_
    refine zj_iconst (pc := 20) (v := nI 0) C dX7_undo_20 (by decide) ?_
    refine zj_istore_n (pc := 21) C dX7_undo_21 (Nat.le_of_ble_eq_true rfl) ?_
    refine zj_blk (bs' := (mB G m (cyI (hsl gh (kn - 1)) g 0) ga gh (kn - 1) gk kp tx ln iz wy wa tt rr we sp wr er)) (by rw [cyI_0]) ?_
    refine zj_keep [true, true] ?_
    refine zq_loop1 (fun (j : Nat) => j ≤ 177) (fun (j : Nat) => 177 - j) (fun (j : Nat) => (mB G m (cyI (hsl gh (kn - 1)) g j) ga gh (kn - 1) gk kp tx ln iz wy wa tt rr we sp wr er)) (fun (j : Nat) => [some (.ref (m 0)), some (.int (nI (j)))]) ?_ 0 (Nat.zero_le _)
    intro j hI ih_22
    refine zj_iload_n (pc := 22) C dX7_undo_22 rfl ?_
    refine zj_sipush (pc := 23) (v := nI 177) C dX7_undo_23 (by decide) ?_
    refine zq_icmp_ge (pc := 26) 56 C dX7_undo_26 (by decide) (by omega) (by omega) (fun c_26 => ?_) (fun c_26 => ?_)
    · refine zq_row 1 (hsl gh (kn - 1)) rfl (fun k hk => if_pos (by omega)) ?_
      refine zj_blk (bs' := (mB G m (hsl gh (kn - 1)) ga gh (kn - 1) gk kp tx ln iz wy wa tt rr we sp wr er)) rfl ?_
      refine zj_aload_n (pc := 56) C dX7_undo_56 rfl ?_
      refine gf_X7_3 (pc := 57) C dX7_undo_57 0 rfl ?_
      exact zj_iretF C hr hlocks dX7_undo_60 (by rw [if_neg c_4]) (by rw [if_neg c_4])
    · refine zj_aload_n (pc := 29) C dX7_undo_29 rfl ?_
      refine gf_X7_0 (pc := 30) C dX7_undo_30 0 rfl ?_
      refine zj_iload_n (pc := 33) C dX7_undo_33 rfl ?_
      refine zj_aload_n (pc := 34) C dX7_undo_34 rfl ?_
      refine gf_X7_2 (pc := 35) C dX7_undo_35 0 rfl ?_
      refine zj_sipush (pc := 38) (v := nI 177) C dX7_undo_38 (by decide) ?_
      refine zj_aload_n (pc := 41) C dX7_undo_41 rfl ?_
      refine gf_X7_3 (pc := 42) C dX7_undo_42 0 rfl ?_
      refine zq_imul (pc := 45) C dX7_undo_45 ?_
      refine zj_iload_n (pc := 46) C dX7_undo_46 rfl ?_
      refine zq_iadd (pc := 47) C dX7_undo_47 ?_
      refine zq_iald (pc := 48) C dX7_undo_48 3 rfl (by omega) (by decide) ?_
      refine zq_iast (pc := 49) C dX7_undo_49 1 rfl (by omega) (by decide) ?_
      refine zj_blk (bs' := (mB G m (updN (cyI (hsl gh (kn - 1)) g j) j (gh (177 * (kn - 1) + j))) ga gh (kn - 1) gk kp tx ln iz wy wa tt rr we sp wr er)) rfl ?_
      refine zj_iinc (pc := 50) (v := nI (j + 1)) C dX7_undo_50 rfl (nI_1 _) ?_
      refine zj_goto (pc := 53) (tgt := 22) C dX7_undo_53 (by decide) ?_
      refine zj_blk (bs' := (mB G m (cyI (hsl gh (kn - 1)) g (j + 1)) ga gh (kn - 1) gk kp tx ln iz wy wa tt rr we sp wr er)) (by rw [← cyI_s]; rfl) ?_
      refine zj_keep [true, true] ?_
      exact ih_22 (j + 1) (by omega) (by omega)
  · refine zj_bipush (pc := 7) (v := (-5)) C dX7_undo_7 (by decide) ?_
    exact zj_iretF C hr hlocks dX7_undo_9 (by rw [if_pos c_4]) (by rw [if_pos c_4, c_4])
set_option maxRecDepth 100000 in
set_option maxHeartbeats 4000000 in
theorem m_X7_keep {l : Launch} {G : GG} {m : Nat → Nat} {g ga gh : Nat → Nat} {kn : Nat} {gk : Nat → Nat} {kp : Bool} {tx : Nat → Nat} {ln : Nat} {iz wy wa tt rr we : Nat → Nat} {sp : Nat} {wr : Bool} {er : Int32} : zX l G yX7_keep cX7_keep 2 (some .int) 0 0 0 0 [.ref (m 0)] (mB G m g ga gh kn gk kp tx ln iz wy wa tt rr we sp wr er).flatten (zF (some (.int (nI (kL g)))) (mB G m g ga gh kn g true tx ln iz wy wa tt rr we sp wr er).flatten) := by
  refine zj_startF RX7 (by decide +kernel) rfl rfl rfl (bs := (mB G m g ga gh kn gk kp tx ln iz wy wa tt rr we sp wr er)) rfl (lo := [some (.ref (m 0)), none]) rfl ?_
  intro p0 e0 s0 m0 args0 below0 meth0 c0 A0 C hr hlocks
  refine zj_iconst (pc := 0) (v := nI 0) C dX7_keep_0 (by decide) ?_
  refine zj_istore_n (pc := 1) C dX7_keep_1 (Nat.le_of_ble_eq_true rfl) ?_
  refine zj_blk (bs' := (mB G m g ga gh kn (cyI g gk 0) kp tx ln iz wy wa tt rr we sp wr er)) (by rw [cyI_0]) ?_
  refine zj_keep [true, true] ?_
  refine zq_loop1 (fun (j : Nat) => j ≤ 177) (fun (j : Nat) => 177 - j) (fun (j : Nat) => (mB G m g ga gh kn (cyI g gk j) kp tx ln iz wy wa tt rr we sp wr er)) (fun (j : Nat) => [some (.ref (m 0)), some (.int (nI (j)))]) ?_ 0 (Nat.zero_le _)
  intro j hI ih_2
  refine zj_iload_n (pc := 2) C dX7_keep_2 rfl ?_
  refine zj_sipush (pc := 3) (v := nI 177) C dX7_keep_3 (by decide) ?_
  refine zq_icmp_ge (pc := 6) 27 C dX7_keep_6 (by decide) (by omega) (by omega) (fun c_6 => ?_) (fun c_6 => ?_)
  · refine zq_row 4 g rfl (fun k hk => if_pos (by omega)) ?_
    refine zj_blk (bs' := (mB G m g ga gh kn g kp tx ln iz wy wa tt rr we sp wr er)) rfl ?_
    refine zj_aload_n (pc := 27) C dX7_keep_27 rfl ?_
    refine zj_iconst (pc := 28) (v := nI 1) C dX7_keep_28 (by decide) ?_
    refine pf_X7_5 (pc := 29) (x := true) C dX7_keep_29 0 rfl ?_
    refine zj_blk (bs' := (mB G m g ga gh kn g true tx ln iz wy wa tt rr we sp wr er)) rfl ?_
    refine zj_aload_n (pc := 32) C dX7_keep_32 rfl ?_
    refine gf_X7_0 (pc := 33) C dX7_keep_33 0 rfl ?_
    refine zj_bipush (pc := 36) (v := nI 14) C dX7_keep_36 (by decide) ?_
    refine zq_iald (pc := 38) C dX7_keep_38 1 rfl (by omega) (by decide) ?_
    exact zj_iretF C hr hlocks dX7_keep_39 rfl rfl
  · refine zj_aload_n (pc := 9) C dX7_keep_9 rfl ?_
    refine gf_X7_4 (pc := 10) C dX7_keep_10 0 rfl ?_
    refine zj_iload_n (pc := 13) C dX7_keep_13 rfl ?_
    refine zj_aload_n (pc := 14) C dX7_keep_14 rfl ?_
    refine gf_X7_0 (pc := 15) C dX7_keep_15 0 rfl ?_
    refine zj_iload_n (pc := 18) C dX7_keep_18 rfl ?_
    refine zq_iald (pc := 19) C dX7_keep_19 1 rfl (by omega) (by decide) ?_
    refine zq_iast (pc := 20) C dX7_keep_20 4 rfl (by omega) (by decide) ?_
    refine zj_blk (bs' := (mB G m g ga gh kn (updN (cyI g gk j) j (g j)) kp tx ln iz wy wa tt rr we sp wr er)) rfl ?_
    refine zj_iinc (pc := 21) (v := nI (j + 1)) C dX7_keep_21 rfl (nI_1 _) ?_
    refine zj_goto (pc := 24) (tgt := 2) C dX7_keep_24 (by decide) ?_
    refine zj_blk (bs' := (mB G m g ga gh kn (cyI g gk (j + 1)) kp tx ln iz wy wa tt rr we sp wr er)) (by rw [cyI_s]) ?_
    refine zj_keep [true, true] ?_
    exact ih_2 (j + 1) (by omega) (by omega)
set_option maxRecDepth 100000 in
set_option maxHeartbeats 4000000 in
theorem m_X7_restore {l : Launch} {G : GG} {m : Nat → Nat} {g ga gh : Nat → Nat} {kn : Nat} {gk : Nat → Nat} {kp : Bool} {tx : Nat → Nat} {ln : Nat} {iz wy wa tt rr we : Nat → Nat} {sp : Nat} {wr : Bool} {er : Int32} (hk : kn ≤ 4) : zX l G yX7_restore cX7_restore 2 (some .int) 1 21 0 0 [.ref (m 0)] (mB G m g ga gh kn gk kp tx ln iz wy wa tt rr we sp wr er).flatten (zF (some (.int (if kp then nI (kL gk) else -5))) (mB G m (if kp = true then gk else g) ga (if kp = true then rcH gh g kn else gh) (if kp = true then rcN kn else kn) gk kp tx ln iz wy wa tt rr we sp wr er).flatten) := by
  refine zj_startF RX7 (by decide +kernel) rfl rfl rfl (bs := (mB G m g ga gh kn gk kp tx ln iz wy wa tt rr we sp wr er)) rfl (lo := [some (.ref (m 0)), none]) rfl ?_
  intro p0 e0 s0 m0 args0 below0 meth0 c0 A0 C hr hlocks
  refine zj_aload_n (pc := 0) C dX7_restore_0 rfl ?_
  refine gf_X7_5 (pc := 1) C dX7_restore_1 0 rfl ?_
  refine zj_ifb_ne (pc := 4) 10 C dX7_restore_4 (by decide) (fun c_4 => ?_) (fun c_4 => ?_)
  · refine zj_aload_n (pc := 10) C dX7_restore_10 rfl ?_
    refine zq_callFn (pc := 11) (bs' := (mB G m g ga (rcH gh g kn) (rcN kn) gk kp tx ln iz wy wa tt rr we sp wr er)) C kv_X7_134 (m_X7_record (by omega)) dX7_restore_11 rfl rfl rfl rfl rfl rfl ⟨0, rfl⟩ rfl rfl ?_
    refine zj_iconst (pc := 14) (v := nI 0) C dX7_restore_14 (by decide) ?_
    refine zj_istore_n (pc := 15) C dX7_restore_15 (Nat.le_of_ble_eq_true rfl) ?_
    refine zj_blk (bs' := (mB G m (cyI gk g 0) ga (rcH gh g kn) (rcN kn) gk kp tx ln iz wy wa tt rr we sp wr er)) (by rw [cyI_0]) ?_
    refine zj_keep [true, true] ?_
    refine zq_loop1 (fun (j : Nat) => j ≤ 177) (fun (j : Nat) => 177 - j) (fun (j : Nat) => (mB G m (cyI gk g j) ga (rcH gh g kn) (rcN kn) gk kp tx ln iz wy wa tt rr we sp wr er)) (fun (j : Nat) => [some (.ref (m 0)), some (.int (nI (j)))]) ?_ 0 (Nat.zero_le _)
    intro j hI ih_16
    refine zj_iload_n (pc := 16) C dX7_restore_16 rfl ?_
    refine zj_sipush (pc := 17) (v := nI 177) C dX7_restore_17 (by decide) ?_
    refine zq_icmp_ge (pc := 20) 41 C dX7_restore_20 (by decide) (by omega) (by omega) (fun c_20 => ?_) (fun c_20 => ?_)
    · refine zq_row 1 gk rfl (fun k hk => if_pos (by omega)) ?_
      refine zj_blk (bs' := (mB G m gk ga (rcH gh g kn) (rcN kn) gk kp tx ln iz wy wa tt rr we sp wr er)) rfl ?_
      refine zj_aload_n (pc := 41) C dX7_restore_41 rfl ?_
      refine gf_X7_0 (pc := 42) C dX7_restore_42 0 rfl ?_
      refine zj_bipush (pc := 45) (v := nI 14) C dX7_restore_45 (by decide) ?_
      refine zq_iald (pc := 47) C dX7_restore_47 1 rfl (by omega) (by decide) ?_
      exact zj_iretF C hr hlocks dX7_restore_48 (by rw [c_4]; rfl) (by rw [c_4]; rfl)
    · refine zj_aload_n (pc := 23) C dX7_restore_23 rfl ?_
      refine gf_X7_0 (pc := 24) C dX7_restore_24 0 rfl ?_
      refine zj_iload_n (pc := 27) C dX7_restore_27 rfl ?_
      refine zj_aload_n (pc := 28) C dX7_restore_28 rfl ?_
      refine gf_X7_4 (pc := 29) C dX7_restore_29 0 rfl ?_
      refine zj_iload_n (pc := 32) C dX7_restore_32 rfl ?_
      refine zq_iald (pc := 33) C dX7_restore_33 4 rfl (by omega) (by decide) ?_
      refine zq_iast (pc := 34) C dX7_restore_34 1 rfl (by omega) (by decide) ?_
      refine zj_blk (bs' := (mB G m (updN (cyI gk g j) j (gk j)) ga (rcH gh g kn) (rcN kn) gk kp tx ln iz wy wa tt rr we sp wr er)) rfl ?_
      refine zj_iinc (pc := 35) (v := nI (j + 1)) C dX7_restore_35 rfl (nI_1 _) ?_
      refine zj_goto (pc := 38) (tgt := 16) C dX7_restore_38 (by decide) ?_
      refine zj_blk (bs' := (mB G m (cyI gk g (j + 1)) ga (rcH gh g kn) (rcN kn) gk kp tx ln iz wy wa tt rr we sp wr er)) (by rw [cyI_s]) ?_
      refine zj_keep [true, true] ?_
      exact ih_16 (j + 1) (by omega) (by omega)
  · refine zj_bipush (pc := 7) (v := (-5)) C dX7_restore_7 (by decide) ?_
    exact zj_iretF C hr hlocks dX7_restore_9 (by rw [c_4]; rfl) (by rw [c_4]; rfl)
set_option maxRecDepth 100000 in
set_option maxHeartbeats 4000000 in
theorem m_X7_type {l : Launch} {G : GG} {m : Nat → Nat} {g ga gh : Nat → Nat} {kn : Nat} {gk : Nat → Nat} {kp : Bool} {tx : Nat → Nat} {ln : Nat} {iz wy wa tt rr we : Nat → Nat} {sp : Nat} {wr : Bool} {er : Int32} {cv : Nat} (hl : ln ≤ 60) : zX l G yX7_type cX7_type 2 (some .int) 0 0 0 0 [.ref (m 0), .int (nI (cv))] (mB G m g ga gh kn gk kp tx ln iz wy wa tt rr we sp wr er).flatten (zF (some (.int (if ln < 60 then nI (ln + 1) else -3))) (mB G m g ga gh kn gk kp (if ln < 60 then updN tx ln cv else tx) (if ln < 60 then ln + 1 else ln) iz wy wa tt rr we sp wr er).flatten) := by
  refine zj_startF RX7 (by decide +kernel) rfl rfl rfl (bs := (mB G m g ga gh kn gk kp tx ln iz wy wa tt rr we sp wr er)) rfl (lo := [some (.ref (m 0)), some (.int (nI (cv)))]) rfl ?_
  intro p0 e0 s0 m0 args0 below0 meth0 c0 A0 C hr hlocks
  refine zj_aload_n (pc := 0) C dX7_type_0 rfl ?_
  refine gf_X7_7 (pc := 1) C dX7_type_1 0 rfl ?_
  refine zj_bipush (pc := 4) (v := nI 60) C dX7_type_4 (by decide) ?_
  refine zq_icmp_ne (pc := 6) 12 C dX7_type_6 (by decide) (by omega) (by omega) (fun c_6 => ?_) (fun c_6 => ?_)
  · refine zj_aload_n (pc := 12) C dX7_type_12 rfl ?_
    refine gf_X7_6 (pc := 13) C dX7_type_13 0 rfl ?_
    refine zj_aload_n (pc := 16) C dX7_type_16 rfl ?_
    refine gf_X7_7 (pc := 17) C dX7_type_17 0 rfl ?_
    refine zj_iload_n (pc := 20) C dX7_type_20 rfl ?_
    refine zq_iast (pc := 21) C dX7_type_21 5 rfl (by omega) (by decide) ?_
    refine zj_blk (bs' := (mB G m g ga gh kn gk kp (updN tx ln cv) ln iz wy wa tt rr we sp wr er)) rfl ?_
    refine zj_aload_n (pc := 22) C dX7_type_22 rfl ?_
    refine zj_dup (pc := 23) C dX7_type_23 rfl ?_
    refine gf_X7_7 (pc := 24) C dX7_type_24 0 rfl ?_
    refine zj_iconst (pc := 27) (v := nI 1) C dX7_type_27 (by decide) ?_
    refine zq_iadd (pc := 28) C dX7_type_28 ?_
    refine pf_X7_7 (pc := 29) C dX7_type_29 0 rfl ?_
    refine zj_blk (bs' := (mB G m g ga gh kn gk kp (updN tx ln cv) (ln + 1) iz wy wa tt rr we sp wr er)) rfl ?_
    refine zj_aload_n (pc := 32) C dX7_type_32 rfl ?_
    refine gf_X7_7 (pc := 33) C dX7_type_33 0 rfl ?_
    exact zj_iretF C hr hlocks dX7_type_36 (by rw [if_pos (by omega)]) (by rw [if_pos (by omega), if_pos (by omega)])
  · refine zj_bipush (pc := 9) (v := (-3)) C dX7_type_9 (by decide) ?_
    exact zj_iretF C hr hlocks dX7_type_11 (by rw [if_neg (by omega)]) (by rw [if_neg (by omega), if_neg (by omega)])
set_option maxRecDepth 100000 in
set_option maxHeartbeats 4000000 in
theorem m_X7_clearText {l : Launch} {G : GG} {m : Nat → Nat} {g ga gh : Nat → Nat} {kn : Nat} {gk : Nat → Nat} {kp : Bool} {tx : Nat → Nat} {ln : Nat} {iz wy wa tt rr we : Nat → Nat} {sp : Nat} {wr : Bool} {er : Int32} : zX l G yX7_clearText cX7_clearText 2 (some .int) 0 0 0 0 [.ref (m 0)] (mB G m g ga gh kn gk kp tx ln iz wy wa tt rr we sp wr er).flatten (zF (some (.int (nI (ln)))) (mB G m g ga gh kn gk kp tx 0 iz wy wa tt rr we sp wr er).flatten) := by
  refine zj_startF RX7 (by decide +kernel) rfl rfl rfl (bs := (mB G m g ga gh kn gk kp tx ln iz wy wa tt rr we sp wr er)) rfl (lo := [some (.ref (m 0)), none]) rfl ?_
  intro p0 e0 s0 m0 args0 below0 meth0 c0 A0 C hr hlocks
  refine zj_aload_n (pc := 0) C dX7_clearText_0 rfl ?_
  refine gf_X7_7 (pc := 1) C dX7_clearText_1 0 rfl ?_
  refine zj_istore_n (pc := 4) C dX7_clearText_4 (Nat.le_of_ble_eq_true rfl) ?_
  refine zj_aload_n (pc := 5) C dX7_clearText_5 rfl ?_
  refine zj_iconst (pc := 6) (v := nI 0) C dX7_clearText_6 (by decide) ?_
  refine pf_X7_7 (pc := 7) C dX7_clearText_7 0 rfl ?_
  refine zj_blk (bs' := (mB G m g ga gh kn gk kp tx 0 iz wy wa tt rr we sp wr er)) rfl ?_
  refine zj_iload_n (pc := 10) C dX7_clearText_10 rfl ?_
  exact zj_iretF C hr hlocks dX7_clearText_11 rfl rfl
