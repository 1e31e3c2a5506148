/-! THE REFERENCE'S QUERIES -/
/-- the answer is v, and of the rows that it works with nothing is known -/
def zQ (v : Option Value) (G : GG) (m : Nat → Nat) (g ga gh : Nat → Nat) (kn : Nat) (gk : Nat → Nat) (kp : Bool) (tx : Nat → Nat) (ln : Nat) (sp : Nat) (wr : Bool) (er : Int32) : Option Value → va_W → Prop := fun v' w' => v' = v ∧ ∃ iz wy wa tt rr we, w' = (mB G m g ga gh kn gk kp tx ln iz wy wa tt rr we sp wr er).flatten
theorem zQ_mk {G : GG} {m : Nat → Nat} {g ga gh : Nat → Nat} {kn : Nat} {gk : Nat → Nat} {kp : Bool} {tx : Nat → Nat} {ln : Nat} {iz wy wa tt rr we : Nat → Nat} {sp : Nat} {wr : Bool} {er v a : Int32} (h : v = a) : zQ (some (.int a)) G m g ga gh kn gk kp tx ln sp wr er (some (.int v)) (mB G m g ga gh kn gk kp tx ln iz wy wa tt rr we sp wr er).flatten := ⟨by rw [h], iz, wy, wa, tt, rr, we, rfl⟩
theorem zQ_mf {G : GG} {m : Nat → Nat} {g ga gh : Nat → Nat} {kn : Nat} {gk : Nat → Nat} {kp : Bool} {tx : Nat → Nat} {ln : Nat} {iz wy wa tt rr we : Nat → Nat} {sp : Nat} {wr : Bool} {er : Int32} {v a : UInt32} (h : v = a) : zQ (some (.float a)) G m g ga gh kn gk kp tx ln sp wr er (some (.float v)) (mB G m g ga gh kn gk kp tx ln iz wy wa tt rr we sp wr er).flatten := ⟨by rw [h], iz, wy, wa, tt, rr, we, rfl⟩
def gdB (g : Nat → Nat) (og : Bool) (x d : Nat) : Bool := if og then gateK g d x else inn g d x
theorem bs_s {p : Nat → Bool} {n : Nat} : bitS p n ||| (if p n = true then 2 ^ n else 0) = bitS p (n + 1) := by
  show _ = bitS p n + _
  have := bitS_lt p n
  split
  · exact or_2 this
  · exact Nat.or_zero _
theorem clkI_xk {g : Nat → Nat} (hv : Vk g) {i y : Nat} (hi : i < kL g) (hy : y < 14) : clkI g i = nI y ↔ (hasCk g i && ck g i == y) = true := by
  obtain ⟨-, h0, h1, -⟩ := Vk_x hv hi
  have h2 := ckB_lt (g := g) h0 h1
  unfold clkI clkB hasCk ck
  cases h : hasB g (lnC g i 0) (lnC g i 1) with
  | true =>
    rw [if_pos rfl, Bool.true_and, nI_eq (by omega) (by omega)]
    simp
  | false =>
    rw [if_neg (by decide), Bool.false_and]
    refine ⟨fun h => absurd h.symm (nI_ne5 (by omega)), fun h => by cases h⟩
theorem sumB_1 {p : Nat → Bool} : ∀ {n : Nat}, sumB p (fun _ => 1) n = cntB p n
  | 0 => rfl
  | n + 1 => by
    show sumB p (fun _ => 1) n + (if p n then 1 else 0) = _
    rw [sumB_1]
    cases h : p n with
    | true => rw [cntB_t h]; rfl
    | false => rw [cntB_f h]; rfl
def rAO (g : Nat → Nat) (x w : Int32) : Int32 := if tHas (nI (kA g)) x then (if w < 0 ∨ 3 < w then -2 else if w = 3 then nI (cntB (fun y => !(FR g x.toNatClampNeg y == 0)) 14) else nI (alC g x.toNatClampNeg w.toNatClampNeg)) else -1
def tso (g : Nat → Nat) (sm : Bool) (x n : Nat) : Nat := sumB (fun al => !(FR g al x == 0)) (fun al => if sm then FS g al x else 1) n
def rCO (g : Nat → Nat) (x w : Int32) : Int32 := if isC x then (if w = 0 then nI (g x.toNatClampNeg) else if w = 1 then nI (bitS (gdB g false x.toNatClampNeg) 4) else if w = 2 then nI (bitS (gdB g true x.toNatClampNeg) 4) else if w = 3 then nI (cntB (fun i => hasCk g i && ck g i == x.toNatClampNeg) (kL g)) else if w = 4 then nI (tso g false x.toNatClampNeg (kA g)) else if w = 5 then nI (tso g true x.toNatClampNeg (kA g)) else -2) else -1
def rWI (g : Nat → Nat) (d x y : Int32) : Int32 := if isDi d && (isC x && isC y) then nFar (dst g d.toNatClampNeg x.toNatClampNeg y.toNatClampNeg) else -1

set_option maxRecDepth 100000 in
set_option maxHeartbeats 4000000 in
theorem m_X7_laneOf {l : Launch} {G : GG} {m : Nat → Nat} {g ga gh : Nat → Nat} {kn : Nat} {gk : Nat → Nat} {kp : Bool} {tx : Nat → Nat} {ln : Nat} {iz wy wa tt rr we : Nat → Nat} {sp : Nat} {wr : Bool} {er : Int32} {x w : Int32} (hv : Vk g) : zX l G yX7_laneOf cX7_laneOf 3 (some .int) 3 67 0 0 [.ref (m 0), .int (x), .int (w)] (mB G m g ga gh kn gk kp tx ln iz wy wa tt rr we sp wr er).flatten (zF (some (.int (aLO g x w))) (mB G m g ga gh kn gk kp tx ln iz wy wa tt rr we sp wr er).flatten) := by
  refine zj_startF RX7 (by decide +kernel) rfl rfl rfl (bs := (mB G m g ga gh kn gk kp tx ln iz wy wa tt rr we sp wr er)) rfl (lo := [some (.ref (m 0)), some (.int (x)), some (.int (w))]) rfl ?_
  intro p0 e0 s0 m0 args0 below0 meth0 c0 A0 C hr hlocks
  refine zj_aload_n (pc := 0) C dX7_laneOf_0 rfl ?_
  refine zj_iload_n (pc := 1) C dX7_laneOf_1 rfl ?_
  refine zq_callP (pc := 2) C kv_X7_140 (m_X7_isLane hv) dX7_laneOf_2 rfl rfl rfl rfl rfl rfl ⟨0, rfl⟩ rfl rfl ?_
  refine zj_ifb_ne (pc := 5) 10 C dX7_laneOf_5 (by decide) (fun c_5 => ?_) (fun c_5 => ?_)
  · obtain ⟨i, hi, rfl⟩ := tHas_s (by have := hv.1; omega) c_5
    have ei : (nI i).toNatClampNeg = i := nI_clamp (by have := hv.1; omega)
    have hk25 := hv.1
    refine zj_iload_n (pc := 10) C dX7_laneOf_10 rfl ?_
    refine zj_iconst (pc := 11) (v := nI 0) C dX7_laneOf_11 (by decide) ?_
    refine zj_bipush (pc := 12) (v := nI 6) C dX7_laneOf_12 (by decide) ?_
    refine zj_callSF (pc := 14) C kv_X7_43 (m_X7_in) dX7_laneOf_14 rfl rfl rfl rfl rfl rfl ?_
    refine zj_ifb_ne (pc := 17) 23 C dX7_laneOf_17 (by decide) (fun c_17 => ?_) (fun c_17 => ?_)
    · have hr2 : ¬ w < 0 ∧ ¬ 6 < w := by have h2 := c_17; unfold inB at h2; simp at h2; exact ⟨Int32.not_lt.mpr h2.1, Int32.not_lt.mpr h2.2⟩
      have hnor : ¬ (w < 0 ∨ 6 < w) := fun h => h.elim hr2.1 hr2.2
      have hr1 := hr2.1
      have hr3 := hr2.2
      obtain ⟨w0, hw0, rfl⟩ := nI_of2 (x := w) (M := 6) (n := 6) rfl hr1 (Int32.not_lt.mp hr3)
      have ew : (nI w0).toNatClampNeg = w0 := nI_clamp (by omega)
      have ha : aLO g (nI i) (nI w0) = if nI w0 = 5 then clkI g i else if nI w0 = 6 then bI (told g i) else nI (lnC g i w0) := by unfold aLO; rw [c_5, if_pos rfl, if_neg hnor, ei, ew]
      refine zj_iload_n (pc := 23) C dX7_laneOf_23 rfl ?_
      refine zj_iconst (pc := 24) (v := nI 5) C dX7_laneOf_24 (by decide) ?_
      refine zq_icmp_ge (pc := 25) 37 C dX7_laneOf_25 (by decide) (by omega) (by omega) (fun c_25 => ?_) (fun c_25 => ?_)
      · refine zj_iload_n (pc := 37) C dX7_laneOf_37 rfl ?_
        refine zj_iconst (pc := 38) (v := nI 5) C dX7_laneOf_38 (by decide) ?_
        refine zq_icmp_ne (pc := 39) 50 C dX7_laneOf_39 (by decide) (by omega) (by omega) (fun c_39 => ?_) (fun c_39 => ?_)
        · refine zj_aload_n (pc := 50) C dX7_laneOf_50 rfl ?_
          refine zj_iload_n (pc := 51) C dX7_laneOf_51 rfl ?_
          refine zq_callP (pc := 52) C kv_X7_59 (m_X7_isTold hv (by omega)) dX7_laneOf_52 rfl rfl rfl rfl rfl rfl ⟨0, rfl⟩ rfl rfl ?_
          refine zj_ifb_eq (pc := 55) 62 C dX7_laneOf_55 (by decide) (fun c_55 => ?_) (fun c_55 => ?_)
          · refine zj_iconst (pc := 62) (v := nI 0) C dX7_laneOf_62 (by decide) ?_
            exact zj_iretF C hr hlocks dX7_laneOf_63 (by rw [ha, if_neg (fun h => by have := (nI_eq (a := w0) (b := 5) (by omega) (by decide)).mp h; omega), if_pos (show nI w0 = 6 by rw [show w0 = 6 by omega]; rfl), c_55]; rfl) rfl
          · refine zj_iconst (pc := 58) (v := nI 1) C dX7_laneOf_58 (by decide) ?_
            refine zj_goto (pc := 59) (tgt := 63) C dX7_laneOf_59 (by decide) ?_
            exact zj_iretF C hr hlocks dX7_laneOf_63 (by rw [ha, if_neg (fun h => by have := (nI_eq (a := w0) (b := 5) (by omega) (by decide)).mp h; omega), if_pos (show nI w0 = 6 by rw [show w0 = 6 by omega]; rfl), c_55]; rfl) rfl
        · refine zj_aload_n (pc := 42) C dX7_laneOf_42 rfl ?_
          refine zj_iload_n (pc := 43) C dX7_laneOf_43 rfl ?_
          refine zq_callP (pc := 44) C kv_X7_55 (m_X7_clerkOf hv (by omega)) dX7_laneOf_44 rfl rfl rfl rfl rfl rfl ⟨0, rfl⟩ rfl rfl ?_
          refine zj_goto (pc := 47) (tgt := 63) C dX7_laneOf_47 (by decide) ?_
          exact zj_iretF C hr hlocks dX7_laneOf_63 (by rw [ha, if_pos (show nI w0 = 5 by rw [show w0 = 5 by omega]; rfl)]) rfl
      · refine zj_aload_n (pc := 28) C dX7_laneOf_28 rfl ?_
        refine zj_iload_n (pc := 29) C dX7_laneOf_29 rfl ?_
        refine zj_iload_n (pc := 30) C dX7_laneOf_30 rfl ?_
        refine zq_callP (pc := 31) C kv_X7_51 (m_X7_of (by omega) (by omega)) dX7_laneOf_31 rfl rfl rfl rfl rfl rfl ⟨0, rfl⟩ rfl rfl ?_
        refine zj_goto (pc := 34) (tgt := 63) C dX7_laneOf_34 (by decide) ?_
        exact zj_iretF C hr hlocks dX7_laneOf_63 (by rw [ha, if_neg (fun h => by have := (nI_eq (a := w0) (b := 5) (by omega) (by decide)).mp h; omega), if_neg (fun h => by have := (nI_eq (a := w0) (b := 6) (by omega) (by decide)).mp h; omega)]) rfl
    · have hor : w < 0 ∨ 6 < w := by have h := c_17; unfold inB at h; simp at h; by_cases h1 : w < 0; exact Or.inl h1; exact Or.inr (h (Int32.not_lt.mp h1))
      have ho : aLO g (nI i) w = -2 := by unfold aLO; rw [c_5, if_pos rfl, if_pos hor]
      refine zj_bipush (pc := 20) (v := (-2)) C dX7_laneOf_20 (by decide) ?_
      exact zj_iretF C hr hlocks dX7_laneOf_22 ho.symm rfl
  · have ho : aLO g x w = -1 := by unfold aLO; rw [c_5]; rfl
    refine zj_iconst (pc := 8) (v := (-1)) C dX7_laneOf_8 (by decide) ?_
    exact zj_iretF C hr hlocks dX7_laneOf_9 ho.symm rfl
set_option maxRecDepth 100000 in
set_option maxHeartbeats 4000000 in
theorem m_X7_lanesOf {l : Launch} {G : GG} {m : Nat → Nat} {g ga gh : Nat → Nat} {kn : Nat} {gk : Nat → Nat} {kp : Bool} {tx : Nat → Nat} {ln : Nat} {iz wy wa tt rr we : Nat → Nat} {sp : Nat} {wr : Bool} {er : Int32} {y : Nat} (hv : Vk g) (hy : y < 14) : zX l G yX7_lanesOf cX7_lanesOf 4 (some .int) 2 46 0 0 [.ref (m 0), .int (nI (y))] (mB G m g ga gh kn gk kp tx ln iz wy wa tt rr we sp wr er).flatten (zF (some (.int (nI (cntB (fun i => hasCk g i && ck g i == y) (kL g))))) (mB G m g ga gh kn gk kp tx ln iz wy wa tt rr we sp wr er).flatten) := by
  refine zj_startF RX7 (by decide +kernel) rfl rfl rfl (bs := (mB G m g ga gh kn gk kp tx ln iz wy wa tt rr we sp wr er)) rfl (lo := [some (.ref (m 0)), some (.int (nI (y))), none, none]) rfl ?_
  intro p0 e0 s0 m0 args0 below0 meth0 c0 A0 C hr hlocks
  have hk : kL g ≤ 25 := hv.1
  have hke : kL g = g 14 := rfl
  refine zj_iconst (pc := 0) (v := nI 0) C dX7_lanesOf_0 (by decide) ?_
  refine zj_istore_n (pc := 1) C dX7_lanesOf_1 (Nat.le_of_ble_eq_true rfl) ?_
  refine zj_iconst (pc := 2) (v := nI 0) C dX7_lanesOf_2 (by decide) ?_
  refine zj_istore_n (pc := 3) C dX7_lanesOf_3 (Nat.le_of_ble_eq_true rfl) ?_
  refine zj_keep [true, true, true, true] ?_
  refine zq_loop1 (fun (k : Nat) => k ≤ kL g) (fun (k : Nat) => kL g - k) (fun (k : Nat) => (mB G m g ga gh kn gk kp tx ln iz wy wa tt rr we sp wr er)) (fun (k : Nat) => [some (.ref (m 0)), some (.int (nI (y))), some (.int (nI (cntB (fun i => hasCk g i && ck g i == y) k))), some (.int (nI (k)))]) ?_ 0 (Nat.zero_le _)
  intro k hI ih_4
  have hc := cntB_le (fun i => hasCk g i && ck g i == y) k
  refine zj_iload_n (pc := 4) C dX7_lanesOf_4 rfl ?_
  refine zj_aload_n (pc := 5) C dX7_lanesOf_5 rfl ?_
  refine gf_X7_0 (pc := 6) C dX7_lanesOf_6 0 rfl ?_
  refine zj_bipush (pc := 9) (v := nI 14) C dX7_lanesOf_9 (by decide) ?_
  refine zq_iald (pc := 11) C dX7_lanesOf_11 1 rfl (by omega) (by decide) ?_
  refine zq_icmp_ge (pc := 12) 38 C dX7_lanesOf_12 (by decide) (by omega) (by omega) (fun c_12 => ?_) (fun c_12 => ?_)
  · refine zj_iload_n (pc := 38) C dX7_lanesOf_38 rfl ?_
    exact zj_iretF C hr hlocks dX7_lanesOf_39 (by rw [show k = kL g by omega]) rfl
  · refine zq_mrg 31 [] (nI (cntB (fun i => hasCk g i && ck g i == y) (k + 1))) ?_ (fun kk => ?_)
    · refine zj_istore_n (pc := 31) C dX7_lanesOf_31 (Nat.le_of_ble_eq_true rfl) ?_
      refine zj_iinc (pc := 32) (v := nI (k + 1)) C dX7_lanesOf_32 rfl (nI_1 _) ?_
      refine zj_goto (pc := 35) (tgt := 4) C dX7_lanesOf_35 (by decide) ?_
      refine zj_keep [true, true, true, true] ?_
      exact ih_4 (k + 1) (by omega) (by omega)
    · refine zj_iload_n (pc := 15) C dX7_lanesOf_15 rfl ?_
      refine zj_aload_n (pc := 16) C dX7_lanesOf_16 rfl ?_
      refine zj_iload_n (pc := 17) C dX7_lanesOf_17 rfl ?_
      refine zq_callP (pc := 18) C kv_X7_55 (m_X7_clerkOf hv (by omega)) dX7_lanesOf_18 rfl rfl rfl rfl rfl rfl ⟨0, rfl⟩ rfl rfl ?_
      refine zj_iload_n (pc := 21) C dX7_lanesOf_21 rfl ?_
      refine zj_icmp_ne (pc := 22) 29 C dX7_lanesOf_22 (by decide) (fun c_22 => ?_) (fun c_22 => ?_)
      · refine zj_iconst (pc := 29) (v := nI 0) C dX7_lanesOf_29 (by decide) ?_
        refine zq_iadd (pc := 30) C dX7_lanesOf_30 ?_
        refine zj_top (x' := nI (cntB (fun i => hasCk g i && ck g i == y) k)) rfl ?_
        exact zj_top (x' := nI (cntB (fun i => hasCk g i && ck g i == y) (k + 1))) (congrArg nI (cntB_f (p := fun i => hasCk g i && ck g i == y) (Bool.eq_false_iff.mpr (fun h => c_22 ((clkI_xk hv (by omega) hy).mpr h)))).symm) kk
      · refine zj_iconst (pc := 25) (v := nI 1) C dX7_lanesOf_25 (by decide) ?_
        refine zj_goto (pc := 26) (tgt := 30) C dX7_lanesOf_26 (by decide) ?_
        refine zq_iadd (pc := 30) C dX7_lanesOf_30 ?_
        exact zj_top (x' := nI (cntB (fun i => hasCk g i && ck g i == y) (k + 1))) (congrArg nI (cntB_t (p := fun i => hasCk g i && ck g i == y) ((clkI_xk hv (by omega) hy).mp c_22)).symm) kk
set_option maxRecDepth 100000 in
set_option maxHeartbeats 4000000 in
theorem m_X7_districtsOf {l : Launch} {G : GG} {m : Nat → Nat} {g ga gh : Nat → Nat} {kn : Nat} {gk : Nat → Nat} {kp : Bool} {tx : Nat → Nat} {ln : Nat} {iz wy wa tt rr we : Nat → Nat} {sp : Nat} {wr : Bool} {er : Int32} {x : Nat} {og : Bool} (hv : Vk g) (hx : x < 14) : zX l G yX7_districtsOf cX7_districtsOf 5 (some .int) 4 89 0 0 [.ref (m 0), .int (nI (x)), .int (bI (og))] (mB G m g ga gh kn gk kp tx ln iz wy wa tt rr we sp wr er).flatten (zF (some (.int (nI (bitS (gdB g og x) 4)))) (mB G m g ga gh kn gk kp tx ln (izV g) wy wa tt rr we sp wr er).flatten) := by
  refine zj_startF RX7 (by decide +kernel) rfl rfl rfl (bs := (mB G m g ga gh kn gk kp tx ln iz wy wa tt rr we sp wr er)) rfl (lo := [some (.ref (m 0)), some (.int (nI (x))), some (.int (bI (og))), none, none]) rfl ?_
  intro p0 e0 s0 m0 args0 below0 meth0 c0 A0 C hr hlocks
  refine zj_aload_n (pc := 0) C dX7_districtsOf_0 rfl ?_
  refine zq_callFn (pc := 1) (bs' := (mB G m g ga gh kn gk kp tx ln (izV g) wy wa tt rr we sp wr er)) C kv_X7_96 (m_X7_looks hv) dX7_districtsOf_1 rfl rfl rfl rfl rfl rfl ⟨0, rfl⟩ rfl rfl ?_
  refine zj_iconst (pc := 4) (v := nI 0) C dX7_districtsOf_4 (by decide) ?_
  refine zj_istore_n (pc := 5) C dX7_districtsOf_5 (Nat.le_of_ble_eq_true rfl) ?_
  refine zj_iconst (pc := 6) (v := nI 0) C dX7_districtsOf_6 (by decide) ?_
  refine zj_istore (pc := 7) C dX7_districtsOf_7 (Nat.le_of_ble_eq_true rfl) ?_
  refine zj_keep [true, true, true, true, true] ?_
  refine zq_loop1 (fun (d : Nat) => d ≤ 4) (fun (d : Nat) => 4 - d) (fun (d : Nat) => (mB G m g ga gh kn gk kp tx ln (izV g) wy wa tt rr we sp wr er)) (fun (d : Nat) => [some (.ref (m 0)), some (.int (nI (x))), some (.int (bI (og))), some (.int (nI (bitS (gdB g og x) d))), some (.int (nI (d)))]) ?_ 0 (Nat.zero_le _)
  intro d hI ih_9
  refine zj_iload (pc := 9) C dX7_districtsOf_9 rfl ?_
  refine zj_iconst (pc := 11) (v := nI 4) C dX7_districtsOf_11 (by decide) ?_
  refine zq_icmp_ge (pc := 12) 59 C dX7_districtsOf_12 (by decide) (by omega) (by omega) (fun c_12 => ?_) (fun c_12 => ?_)
  · refine zj_iload_n (pc := 59) C dX7_districtsOf_59 rfl ?_
    exact zj_iretF C hr hlocks dX7_districtsOf_60 (by rw [show d = 4 by omega]) rfl
  · refine zj_iload_n (pc := 15) C dX7_districtsOf_15 rfl ?_
    refine zq_mrg 51 [.int (nI (bitS (gdB g og x) d))] (nI (if gdB g og x d = true then 2 ^ d else 0)) ?_ (fun kk => ?_)
    · refine zq_ior (pc := 51) C dX7_districtsOf_51 ?_
      refine zj_top (x' := nI (bitS (gdB g og x) (d + 1))) (congrArg nI bs_s) ?_
      refine zj_istore_n (pc := 52) C dX7_districtsOf_52 (Nat.le_of_ble_eq_true rfl) ?_
      refine zj_iinc (pc := 53) (v := nI (d + 1)) C dX7_districtsOf_53 rfl (nI_1 _) ?_
      refine zj_goto (pc := 56) (tgt := 9) C dX7_districtsOf_56 (by decide) ?_
      refine zj_keep [true, true, true, true, true] ?_
      exact ih_9 (d + 1) (by omega) (by omega)
    · refine zj_iload_n (pc := 16) C dX7_districtsOf_16 rfl ?_
      refine zj_ifb_eq (pc := 17) 33 C dX7_districtsOf_17 (by decide) (fun c_17 => ?_) (fun c_17 => ?_)
      · refine zj_aload_n (pc := 33) C dX7_districtsOf_33 rfl ?_
        refine zj_iload_n (pc := 34) C dX7_districtsOf_34 rfl ?_
        refine zj_iload (pc := 35) C dX7_districtsOf_35 rfl ?_
        refine zq_callP (pc := 37) C kv_X7_63 (m_X7_isIn (by omega) (by omega)) dX7_districtsOf_37 rfl rfl rfl rfl rfl rfl ⟨0, rfl⟩ rfl rfl ?_
        refine zj_ifb_eq (pc := 40) 50 C dX7_districtsOf_40 (by decide) (fun c_40 => ?_) (fun c_40 => ?_)
        · refine zj_iconst (pc := 50) (v := nI 0) C dX7_districtsOf_50 (by decide) ?_
          exact zj_top (x' := nI (if gdB g og x d = true then 2 ^ d else 0)) (congrArg nI (by rw [show gdB g og x d = false from by unfold gdB; rw [c_17]; exact c_40]; rfl)) kk
        · refine zj_iconst (pc := 43) (v := nI 1) C dX7_districtsOf_43 (by decide) ?_
          refine zj_iload (pc := 44) C dX7_districtsOf_44 rfl ?_
          refine zq_shl1 (pc := 46) C dX7_districtsOf_46 (by omega) ?_
          refine zj_goto (pc := 47) (tgt := 51) C dX7_districtsOf_47 (by decide) ?_
          exact zj_top (x' := nI (if gdB g og x d = true then 2 ^ d else 0)) (congrArg nI (by rw [show gdB g og x d = true from by unfold gdB; rw [c_17]; exact c_40]; rfl)) kk
      · refine zj_aload_n (pc := 20) C dX7_districtsOf_20 rfl ?_
        refine zj_iload_n (pc := 21) C dX7_districtsOf_21 rfl ?_
        refine zj_iload (pc := 22) C dX7_districtsOf_22 rfl ?_
        refine zq_callP (pc := 24) C kv_X7_82 (m_X7_isGate (by omega) (by omega)) dX7_districtsOf_24 rfl rfl rfl rfl rfl rfl ⟨0, rfl⟩ rfl rfl ?_
        refine zj_ifb_eq (pc := 27) 50 C dX7_districtsOf_27 (by decide) (fun c_27 => ?_) (fun c_27 => ?_)
        · refine zj_iconst (pc := 50) (v := nI 0) C dX7_districtsOf_50 (by decide) ?_
          exact zj_top (x' := nI (if gdB g og x d = true then 2 ^ d else 0)) (congrArg nI (by rw [show gdB g og x d = false from by unfold gdB; rw [c_17]; exact c_27]; rfl)) kk
        · refine zj_goto (pc := 30) (tgt := 43) C dX7_districtsOf_30 (by decide) ?_
          refine zj_iconst (pc := 43) (v := nI 1) C dX7_districtsOf_43 (by decide) ?_
          refine zj_iload (pc := 44) C dX7_districtsOf_44 rfl ?_
          refine zq_shl1 (pc := 46) C dX7_districtsOf_46 (by omega) ?_
          refine zj_goto (pc := 47) (tgt := 51) C dX7_districtsOf_47 (by decide) ?_
          exact zj_top (x' := nI (if gdB g og x d = true then 2 ^ d else 0)) (congrArg nI (by rw [show gdB g og x d = true from by unfold gdB; rw [c_17]; exact c_27]; rfl)) kk
set_option maxRecDepth 100000 in
set_option maxHeartbeats 4000000 in
theorem m_X7_ruleForV {l : Launch} {G : GG} {m : Nat → Nat} {g ga gh : Nat → Nat} {kn : Nat} {gk : Nat → Nat} {kp : Bool} {tx : Nat → Nat} {ln : Nat} {iz wy wa tt we : Nat → Nat} {sp : Nat} {wr : Bool} {er : Int32} {r0 : Nat → Nat} {x al : Nat} (hx : x < 14) (ha : al < kA g) (h12 : kA g ≤ 12) : zX l G yX7_ruleFor cX7_ruleFor 3 (some .int) 0 0 0 0 [.ref (m 0), .int (nI (x)), .int (nI (al))] (mB G m g ga gh kn gk kp tx ln iz wy wa tt (rrV g r0) we sp wr er).flatten (zF (some (.int (nI (FR g al x)))) (mB G m g ga gh kn gk kp tx ln iz wy wa tt (rrV g r0) we sp wr er).flatten) := by
  refine zj_startF RX7 (by decide +kernel) rfl rfl rfl (bs := (mB G m g ga gh kn gk kp tx ln iz wy wa tt (rrV g r0) we sp wr er)) rfl (lo := [some (.ref (m 0)), some (.int (nI (x))), some (.int (nI (al)))]) rfl ?_
  intro p0 e0 s0 m0 args0 below0 meth0 c0 A0 C hr hlocks
  refine zj_aload_n (pc := 0) C dX7_ruleFor_0 rfl ?_
  refine gf_X7_12 (pc := 1) C dX7_ruleFor_1 0 rfl ?_
  refine zj_bipush (pc := 4) (v := nI 14) C dX7_ruleFor_4 (by decide) ?_
  refine zj_iload_n (pc := 6) C dX7_ruleFor_6 rfl ?_
  refine zq_imul (pc := 7) C dX7_ruleFor_7 ?_
  refine zj_iload_n (pc := 8) C dX7_ruleFor_8 rfl ?_
  refine zq_iadd (pc := 9) C dX7_ruleFor_9 ?_
  refine zq_iald (pc := 10) C dX7_ruleFor_10 10 rfl (by omega) (by decide) ?_
  exact zj_iretF C hr hlocks dX7_ruleFor_11 (congrArg nI (ttI_at ha hx)) rfl
set_option maxRecDepth 100000 in
set_option maxHeartbeats 4000000 in
theorem m_X7_sumForV {l : Launch} {G : GG} {m : Nat → Nat} {g ga gh : Nat → Nat} {kn : Nat} {gk : Nat → Nat} {kp : Bool} {tx : Nat → Nat} {ln : Nat} {iz wy wa rr we : Nat → Nat} {sp : Nat} {wr : Bool} {er : Int32} {t0 : Nat → Nat} {x al : Nat} (hx : x < 14) (ha : al < kA g) (h12 : kA g ≤ 12) : zX l G yX7_sumFor cX7_sumFor 3 (some .int) 0 0 0 0 [.ref (m 0), .int (nI (x)), .int (nI (al))] (mB G m g ga gh kn gk kp tx ln iz wy wa (ttV g t0) rr we sp wr er).flatten (zF (some (.int (nI (FS g al x)))) (mB G m g ga gh kn gk kp tx ln iz wy wa (ttV g t0) rr we sp wr er).flatten) := by
  refine zj_startF RX7 (by decide +kernel) rfl rfl rfl (bs := (mB G m g ga gh kn gk kp tx ln iz wy wa (ttV g t0) rr we sp wr er)) rfl (lo := [some (.ref (m 0)), some (.int (nI (x))), some (.int (nI (al)))]) rfl ?_
  intro p0 e0 s0 m0 args0 below0 meth0 c0 A0 C hr hlocks
  refine zj_aload_n (pc := 0) C dX7_sumFor_0 rfl ?_
  refine gf_X7_11 (pc := 1) C dX7_sumFor_1 0 rfl ?_
  refine zj_bipush (pc := 4) (v := nI 14) C dX7_sumFor_4 (by decide) ?_
  refine zj_iload_n (pc := 6) C dX7_sumFor_6 rfl ?_
  refine zq_imul (pc := 7) C dX7_sumFor_7 ?_
  refine zj_iload_n (pc := 8) C dX7_sumFor_8 rfl ?_
  refine zq_iadd (pc := 9) C dX7_sumFor_9 ?_
  refine zq_iald (pc := 10) C dX7_sumFor_10 9 rfl (by omega) (by decide) ?_
  exact zj_iretF C hr hlocks dX7_sumFor_11 (congrArg nI (ttI_at ha hx)) rfl
set_option maxRecDepth 100000 in
set_option maxHeartbeats 4000000 in
theorem m_X7_crossingsWith {l : Launch} {G : GG} {m : Nat → Nat} {g ga gh : Nat → Nat} {kn : Nat} {gk : Nat → Nat} {kp : Bool} {tx : Nat → Nat} {ln : Nat} {iz wy wa tt rr we : Nat → Nat} {sp : Nat} {wr : Bool} {er : Int32} {al : Nat} (hv : Vk g) (ha0 : al < kA g) : zX l G yX7_crossingsWith cX7_crossingsWith 4 (some .int) 5 117 0 0 [.ref (m 0), .int (nI (al))] (mB G m g ga gh kn gk kp tx ln iz wy wa tt rr we sp wr er).flatten (zF (some (.int (nI (cntB (fun y => !(FR g al y == 0)) 14)))) (mB G m g ga gh kn gk kp tx ln (izV g) (wyV g) wa (ttV g tt) (rrV g rr) we sp wr er).flatten) := by
  refine zj_startF RX7 (by decide +kernel) rfl rfl rfl (bs := (mB G m g ga gh kn gk kp tx ln iz wy wa tt rr we sp wr er)) rfl (lo := [some (.ref (m 0)), some (.int (nI (al))), none, none]) rfl ?_
  intro p0 e0 s0 m0 args0 below0 meth0 c0 A0 C hr hlocks
  have ha : kA g ≤ 12 := hv.2.1
  have hae : kA g = g 140 := rfl
  refine zj_aload_n (pc := 0) C dX7_crossingsWith_0 rfl ?_
  refine zq_callFn (pc := 1) (bs' := (mB G m g ga gh kn gk kp tx ln (izV g) (wyV g) wa (ttV g tt) (rrV g rr) we sp wr er)) C kv_X7_196 (m_X7_worksOutTotals hv) dX7_crossingsWith_1 rfl rfl rfl rfl rfl rfl ⟨0, rfl⟩ rfl rfl ?_
  refine zj_iconst (pc := 4) (v := nI 0) C dX7_crossingsWith_4 (by decide) ?_
  refine zj_istore_n (pc := 5) C dX7_crossingsWith_5 (Nat.le_of_ble_eq_true rfl) ?_
  refine zj_iconst (pc := 6) (v := nI 0) C dX7_crossingsWith_6 (by decide) ?_
  refine zj_istore_n (pc := 7) C dX7_crossingsWith_7 (Nat.le_of_ble_eq_true rfl) ?_
  refine zj_keep [true, true, true, true] ?_
  refine zq_loop1 (fun (k : Nat) => k ≤ 14) (fun (k : Nat) => 14 - k) (fun (k : Nat) => (mB G m g ga gh kn gk kp tx ln (izV g) (wyV g) wa (ttV g tt) (rrV g rr) we sp wr er)) (fun (k : Nat) => [some (.ref (m 0)), some (.int (nI (al))), some (.int (nI (cntB (fun y => !(FR g al y == 0)) k))), some (.int (nI (k)))]) ?_ 0 (Nat.zero_le _)
  intro k hI ih_8
  have hc := cntB_le (fun y => !(FR g al y == 0)) k
  have hr3 := FR_le g al k
  refine zj_iload_n (pc := 8) C dX7_crossingsWith_8 rfl ?_
  refine zj_bipush (pc := 9) (v := nI 14) C dX7_crossingsWith_9 (by decide) ?_
  refine zq_icmp_ge (pc := 11) 37 C dX7_crossingsWith_11 (by decide) (by omega) (by omega) (fun c_11 => ?_) (fun c_11 => ?_)
  · refine zj_iload_n (pc := 37) C dX7_crossingsWith_37 rfl ?_
    exact zj_iretF C hr hlocks dX7_crossingsWith_38 (by rw [show k = 14 by omega]) rfl
  · refine zq_mrg 30 [] (nI (cntB (fun y => !(FR g al y == 0)) (k + 1))) ?_ (fun kk => ?_)
    · refine zj_istore_n (pc := 30) C dX7_crossingsWith_30 (Nat.le_of_ble_eq_true rfl) ?_
      refine zj_iinc (pc := 31) (v := nI (k + 1)) C dX7_crossingsWith_31 rfl (nI_1 _) ?_
      refine zj_goto (pc := 34) (tgt := 8) C dX7_crossingsWith_34 (by decide) ?_
      refine zj_keep [true, true, true, true] ?_
      exact ih_8 (k + 1) (by omega) (by omega)
    · refine zj_iload_n (pc := 14) C dX7_crossingsWith_14 rfl ?_
      refine zj_aload_n (pc := 15) C dX7_crossingsWith_15 rfl ?_
      refine zj_iload_n (pc := 16) C dX7_crossingsWith_16 rfl ?_
      refine zj_iload_n (pc := 17) C dX7_crossingsWith_17 rfl ?_
      refine zq_callP (pc := 18) C kv_X7_109 (m_X7_ruleForV (by omega) (by omega) (by omega)) dX7_crossingsWith_18 rfl rfl rfl rfl rfl rfl ⟨0, rfl⟩ rfl rfl ?_
      refine zq_if_le (pc := 21) 28 C dX7_crossingsWith_21 (by decide) (by omega) (fun c_21 => ?_) (fun c_21 => ?_)
      · refine zj_iconst (pc := 28) (v := nI 0) C dX7_crossingsWith_28 (by decide) ?_
        refine zq_iadd (pc := 29) C dX7_crossingsWith_29 ?_
        refine zj_top (x' := nI (cntB (fun y => !(FR g al y == 0)) k)) rfl ?_
        exact zj_top (x' := nI (cntB (fun y => !(FR g al y == 0)) (k + 1))) (congrArg nI (cntB_f (p := fun y => !(FR g al y == 0)) (by simp [c_21])).symm) kk
      · refine zj_iconst (pc := 24) (v := nI 1) C dX7_crossingsWith_24 (by decide) ?_
        refine zj_goto (pc := 25) (tgt := 29) C dX7_crossingsWith_25 (by decide) ?_
        refine zq_iadd (pc := 29) C dX7_crossingsWith_29 ?_
        exact zj_top (x' := nI (cntB (fun y => !(FR g al y == 0)) (k + 1))) (congrArg nI (cntB_t (p := fun y => !(FR g al y == 0)) (by simp; omega)).symm) kk
set_option maxRecDepth 100000 in
set_option maxHeartbeats 4000000 in
theorem m_X7_alleyOf {l : Launch} {G : GG} {m : Nat → Nat} {g ga gh : Nat → Nat} {kn : Nat} {gk : Nat → Nat} {kp : Bool} {tx : Nat → Nat} {ln : Nat} {iz wy wa tt rr we : Nat → Nat} {sp : Nat} {wr : Bool} {er : Int32} {x w : Int32} (hv : Vk g) : zX l G yX7_alleyOf cX7_alleyOf 3 (some .int) 6 140 0 0 [.ref (m 0), .int (x), .int (w)] (mB G m g ga gh kn gk kp tx ln iz wy wa tt rr we sp wr er).flatten (zQ (some (.int (rAO g x w))) G m g ga gh kn gk kp tx ln sp wr er) := by
  refine zj_startF RX7 (by decide +kernel) rfl rfl rfl (bs := (mB G m g ga gh kn gk kp tx ln iz wy wa tt rr we sp wr er)) rfl (lo := [some (.ref (m 0)), some (.int (x)), some (.int (w))]) rfl ?_
  intro p0 e0 s0 m0 args0 below0 meth0 c0 A0 C hr hlocks
  have ha : kA g ≤ 12 := hv.2.1
  have hae : kA g = g 140 := rfl
  refine zj_aload_n (pc := 0) C dX7_alleyOf_0 rfl ?_
  refine zj_iload_n (pc := 1) C dX7_alleyOf_1 rfl ?_
  refine zq_callP (pc := 2) C kv_X7_154 (m_X7_isAlley hv) dX7_alleyOf_2 rfl rfl rfl rfl rfl rfl ⟨0, rfl⟩ rfl rfl ?_
  refine zj_ifb_ne (pc := 5) 10 C dX7_alleyOf_5 (by decide) (fun c_5 => ?_) (fun c_5 => ?_)
  · obtain ⟨i, hi, rfl⟩ := tHas_s (by omega) c_5
    have ei : (nI i).toNatClampNeg = i := nI_clamp (by omega)
    refine zj_iload_n (pc := 10) C dX7_alleyOf_10 rfl ?_
    refine zj_iconst (pc := 11) (v := nI 0) C dX7_alleyOf_11 (by decide) ?_
    refine zj_iconst (pc := 12) (v := nI 3) C dX7_alleyOf_12 (by decide) ?_
    refine zj_callSF (pc := 13) C kv_X7_43 (m_X7_in) dX7_alleyOf_13 rfl rfl rfl rfl rfl rfl ?_
    refine zj_ifb_ne (pc := 16) 22 C dX7_alleyOf_16 (by decide) (fun c_16 => ?_) (fun c_16 => ?_)
    · have hr2 : ¬ w < 0 ∧ ¬ 3 < w := by have h2 := c_16; unfold inB at h2; simp at h2; exact ⟨Int32.not_lt.mpr h2.1, Int32.not_lt.mpr h2.2⟩
      have hnor : ¬ (w < 0 ∨ 3 < w) := fun h => h.elim hr2.1 hr2.2
      have hr1 := hr2.1
      have hr3 := hr2.2
      obtain ⟨w0, hw0, rfl⟩ := nI_of2 (x := w) (M := 3) (n := 3) rfl hr1 (Int32.not_lt.mp hr3)
      have ew : (nI w0).toNatClampNeg = w0 := nI_clamp (by omega)
      have ha9 : rAO g (nI i) (nI w0) = if nI w0 = 3 then nI (cntB (fun y => !(FR g i y == 0)) 14) else nI (alC g i w0) := by unfold rAO; rw [c_5, if_pos rfl, if_neg hnor, ei, ew]
      refine zj_iload_n (pc := 22) C dX7_alleyOf_22 rfl ?_
      refine zj_iconst (pc := 23) (v := nI 3) C dX7_alleyOf_23 (by decide) ?_
      refine zq_icmp_ge (pc := 24) 36 C dX7_alleyOf_24 (by decide) (by omega) (by omega) (fun c_24 => ?_) (fun c_24 => ?_)
      · refine zj_aload_n (pc := 36) C dX7_alleyOf_36 rfl ?_
        refine zj_iload_n (pc := 37) C dX7_alleyOf_37 rfl ?_
        refine zq_callF (pc := 38) (bs' := (mB G m g ga gh kn gk kp tx ln (izV g) (wyV g) wa (ttV g tt) (rrV g rr) we sp wr er)) C kv_X7_199 (m_X7_crossingsWith hv (by omega)) dX7_alleyOf_38 rfl rfl rfl rfl rfl rfl ⟨0, rfl⟩ rfl rfl ?_
        refine zj_iret C hr hlocks dX7_alleyOf_41 ?_
        exact zQ_mk (by rw [ha9, if_pos (show nI w0 = 3 by rw [show w0 = 3 by omega]; rfl)])
      · refine zj_aload_n (pc := 27) C dX7_alleyOf_27 rfl ?_
        refine zj_iload_n (pc := 28) C dX7_alleyOf_28 rfl ?_
        refine zj_iload_n (pc := 29) C dX7_alleyOf_29 rfl ?_
        refine zq_callP (pc := 30) C kv_X7_79 (m_X7_ofAlley (by omega) (by omega)) dX7_alleyOf_30 rfl rfl rfl rfl rfl rfl ⟨0, rfl⟩ rfl rfl ?_
        refine zj_goto (pc := 33) (tgt := 41) C dX7_alleyOf_33 (by decide) ?_
        refine zj_iret C hr hlocks dX7_alleyOf_41 ?_
        exact zQ_mk (by rw [ha9, if_neg (fun h => by have := (nI_eq (a := w0) (b := 3) (by omega) (by decide)).mp h; omega)])
    · have hor : w < 0 ∨ 3 < w := by have h := c_16; unfold inB at h; simp at h; by_cases h1 : w < 0; exact Or.inl h1; exact Or.inr (h (Int32.not_lt.mp h1))
      have ho : rAO g (nI i) w = -2 := by unfold rAO; rw [c_5, if_pos rfl, if_pos hor]
      refine zj_bipush (pc := 19) (v := (-2)) C dX7_alleyOf_19 (by decide) ?_
      refine zj_iret C hr hlocks dX7_alleyOf_21 ?_
      exact zQ_mk ho.symm
  · have ho : rAO g x w = -1 := by unfold rAO; rw [c_5]; rfl
    refine zj_iconst (pc := 8) (v := (-1)) C dX7_alleyOf_8 (by decide) ?_
    refine zj_iret C hr hlocks dX7_alleyOf_9 ?_
    exact zQ_mk ho.symm
set_option maxRecDepth 100000 in
set_option maxHeartbeats 4000000 in
theorem m_X7_totalsOf {l : Launch} {G : GG} {m : Nat → Nat} {g ga gh : Nat → Nat} {kn : Nat} {gk : Nat → Nat} {kp : Bool} {tx : Nat → Nat} {ln : Nat} {iz wy wa tt rr we : Nat → Nat} {sp : Nat} {wr : Bool} {er : Int32} {x : Nat} {sm : Bool} (hv : Vk g) (hx : x < 14) : zX l G yX7_totalsOf cX7_totalsOf 5 (some .int) 5 117 0 0 [.ref (m 0), .int (nI (x)), .int (bI (sm))] (mB G m g ga gh kn gk kp tx ln iz wy wa tt rr we sp wr er).flatten (zF (some (.int (nI (tso g sm x (kA g))))) (mB G m g ga gh kn gk kp tx ln (izV g) (wyV g) wa (ttV g tt) (rrV g rr) we sp wr er).flatten) := by
  refine zj_startF RX7 (by decide +kernel) rfl rfl rfl (bs := (mB G m g ga gh kn gk kp tx ln iz wy wa tt rr we sp wr er)) rfl (lo := [some (.ref (m 0)), some (.int (nI (x))), some (.int (bI (sm))), none, none]) rfl ?_
  intro p0 e0 s0 m0 args0 below0 meth0 c0 A0 C hr hlocks
  have ha : kA g ≤ 12 := hv.2.1
  have hae : kA g = g 140 := rfl
  refine zj_aload_n (pc := 0) C dX7_totalsOf_0 rfl ?_
  refine zq_callFn (pc := 1) (bs' := (mB G m g ga gh kn gk kp tx ln (izV g) (wyV g) wa (ttV g tt) (rrV g rr) we sp wr er)) C kv_X7_196 (m_X7_worksOutTotals hv) dX7_totalsOf_1 rfl rfl rfl rfl rfl rfl ⟨0, rfl⟩ rfl rfl ?_
  refine zj_iconst (pc := 4) (v := nI 0) C dX7_totalsOf_4 (by decide) ?_
  refine zj_istore_n (pc := 5) C dX7_totalsOf_5 (Nat.le_of_ble_eq_true rfl) ?_
  refine zj_iconst (pc := 6) (v := nI 0) C dX7_totalsOf_6 (by decide) ?_
  refine zj_istore (pc := 7) C dX7_totalsOf_7 (Nat.le_of_ble_eq_true rfl) ?_
  refine zj_keep [true, true, true, true, true] ?_
  refine zq_loop1 (fun (al : Nat) => al ≤ kA g) (fun (al : Nat) => kA g - al) (fun (al : Nat) => (mB G m g ga gh kn gk kp tx ln (izV g) (wyV g) wa (ttV g tt) (rrV g rr) we sp wr er)) (fun (al : Nat) => [some (.ref (m 0)), some (.int (nI (x))), some (.int (bI (sm))), some (.int (nI (tso g sm x al))), some (.int (nI (al)))]) ?_ 0 (Nat.zero_le _)
  intro al hI ih_9
  have hr3 := FR_le g al x
  refine zj_iload (pc := 9) C dX7_totalsOf_9 rfl ?_
  refine zj_aload_n (pc := 11) C dX7_totalsOf_11 rfl ?_
  refine gf_X7_0 (pc := 12) C dX7_totalsOf_12 0 rfl ?_
  refine zj_sipush (pc := 15) (v := nI 140) C dX7_totalsOf_15 (by decide) ?_
  refine zq_iald (pc := 18) C dX7_totalsOf_18 1 rfl (by omega) (by decide) ?_
  refine zq_icmp_ge (pc := 19) 60 C dX7_totalsOf_19 (by decide) (by omega) (by omega) (fun c_19 => ?_) (fun c_19 => ?_)
  · refine zj_iload_n (pc := 60) C dX7_totalsOf_60 rfl ?_
    exact zj_iretF C hr hlocks dX7_totalsOf_61 (by rw [show al = kA g by omega]) rfl
  · refine zq_mrg 53 [] (nI (tso g sm x (al + 1))) ?_ (fun kk => ?_)
    · refine zj_istore_n (pc := 53) C dX7_totalsOf_53 (Nat.le_of_ble_eq_true rfl) ?_
      refine zj_iinc (pc := 54) (v := nI (al + 1)) C dX7_totalsOf_54 rfl (nI_1 _) ?_
      refine zj_goto (pc := 57) (tgt := 9) C dX7_totalsOf_57 (by decide) ?_
      refine zj_keep [true, true, true, true, true] ?_
      exact ih_9 (al + 1) (by omega) (by omega)
    · refine zj_iload_n (pc := 22) C dX7_totalsOf_22 rfl ?_
      refine zj_aload_n (pc := 23) C dX7_totalsOf_23 rfl ?_
      refine zj_iload_n (pc := 24) C dX7_totalsOf_24 rfl ?_
      refine zj_iload (pc := 25) C dX7_totalsOf_25 rfl ?_
      refine zq_callP (pc := 27) C kv_X7_109 (m_X7_ruleForV (by omega) (by omega) (by omega)) dX7_totalsOf_27 rfl rfl rfl rfl rfl rfl ⟨0, rfl⟩ rfl rfl ?_
      refine zq_if_ne (pc := 30) 37 C dX7_totalsOf_30 (by decide) (by omega) (fun c_30 => ?_) (fun c_30 => ?_)
      · refine zj_iload_n (pc := 37) C dX7_totalsOf_37 rfl ?_
        refine zj_ifb_eq (pc := 38) 51 C dX7_totalsOf_38 (by decide) (fun c_38 => ?_) (fun c_38 => ?_)
        · refine zj_iconst (pc := 51) (v := nI 1) C dX7_totalsOf_51 (by decide) ?_
          refine zq_iadd (pc := 52) C dX7_totalsOf_52 ?_
          exact zj_top (x' := nI (tso g sm x (al + 1))) (congrArg nI (by have h := sumB_t (p := fun al => !(FR g al x == 0)) (v := fun al => if sm then FS g al x else 1) (n := al) (by simp [c_30]); rw [c_38] at h; exact (by rw [c_38]; exact h.symm))) kk
        · refine zj_aload_n (pc := 41) C dX7_totalsOf_41 rfl ?_
          refine zj_iload_n (pc := 42) C dX7_totalsOf_42 rfl ?_
          refine zj_iload (pc := 43) C dX7_totalsOf_43 rfl ?_
          refine zq_callP (pc := 45) C kv_X7_116 (m_X7_sumForV (by omega) (by omega) (by omega)) dX7_totalsOf_45 rfl rfl rfl rfl rfl rfl ⟨0, rfl⟩ rfl rfl ?_
          refine zj_goto (pc := 48) (tgt := 52) C dX7_totalsOf_48 (by decide) ?_
          refine zq_iadd (pc := 52) C dX7_totalsOf_52 ?_
          exact zj_top (x' := nI (tso g sm x (al + 1))) (congrArg nI (by have h := sumB_t (p := fun al => !(FR g al x == 0)) (v := fun al => if sm then FS g al x else 1) (n := al) (by simp [c_30]); rw [c_38] at h; exact (by rw [c_38]; exact h.symm))) kk
      · refine zj_iconst (pc := 33) (v := nI 0) C dX7_totalsOf_33 (by decide) ?_
        refine zj_goto (pc := 34) (tgt := 52) C dX7_totalsOf_34 (by decide) ?_
        refine zq_iadd (pc := 52) C dX7_totalsOf_52 ?_
        refine zj_top (x' := nI (tso g sm x al)) rfl ?_
        exact zj_top (x' := nI (tso g sm x (al + 1))) (congrArg nI (sumB_f (p := fun al => !(FR g al x == 0)) (by simp [c_30])).symm) kk
set_option maxRecDepth 100000 in
set_option maxHeartbeats 4000000 in
theorem m_X7_gates {l : Launch} {G : GG} {m : Nat → Nat} {g ga gh : Nat → Nat} {kn : Nat} {gk : Nat → Nat} {kp : Bool} {tx : Nat → Nat} {ln : Nat} {iz wy wa tt rr we : Nat → Nat} {sp : Nat} {wr : Bool} {er : Int32} (hv : Vk g) : zX l G yX7_gates cX7_gates 3 (some .int) 5 113 0 0 [.ref (m 0)] (mB G m g ga gh kn gk kp tx ln iz wy wa tt rr we sp wr er).flatten (zF (some (.int (nI (cntB (fun x => !(bitS (gdB g true x) 4 == 0)) 14)))) (mB G m g ga gh kn gk kp tx ln (izV g) wy wa tt rr we sp wr er).flatten) := by
  refine zj_startF RX7 (by decide +kernel) rfl rfl rfl (bs := (mB G m g ga gh kn gk kp tx ln iz wy wa tt rr we sp wr er)) rfl (lo := [some (.ref (m 0)), none, none]) rfl ?_
  intro p0 e0 s0 m0 args0 below0 meth0 c0 A0 C hr hlocks
  refine zj_iconst (pc := 0) (v := nI 0) C dX7_gates_0 (by decide) ?_
  refine zj_istore_n (pc := 1) C dX7_gates_1 (Nat.le_of_ble_eq_true rfl) ?_
  refine zj_iconst (pc := 2) (v := nI 0) C dX7_gates_2 (by decide) ?_
  refine zj_istore_n (pc := 3) C dX7_gates_3 (Nat.le_of_ble_eq_true rfl) ?_
  refine zj_keep [true, true, true] ?_
  refine zq_loop2 (fun (k : Nat) (e : Nat → Nat) => k ≤ 14 ∧ (k = 14 → e = izV g)) (fun (k : Nat) (e : Nat → Nat) => 14 - k) (fun (k : Nat) (e : Nat → Nat) => (mB G m g ga gh kn gk kp tx ln e wy wa tt rr we sp wr er)) (fun (k : Nat) (e : Nat → Nat) => [some (.ref (m 0)), some (.int (nI (cntB (fun x => !(bitS (gdB g true x) 4 == 0)) k))), some (.int (nI (k)))]) ?_ 0 iz ⟨Nat.zero_le _, fun h => by cases h⟩
  intro k e hI ih_4
  obtain ⟨h1, h2⟩ := hI
  have hc := cntB_le (fun x => !(bitS (gdB g true x) 4 == 0)) k
  have hb := bitS_lt (gdB g true k) 4
  refine zj_iload_n (pc := 4) C dX7_gates_4 rfl ?_
  refine zj_bipush (pc := 5) (v := nI 14) C dX7_gates_5 (by decide) ?_
  refine zq_icmp_ge (pc := 7) 33 C dX7_gates_7 (by decide) (by omega) (by omega) (fun c_7 => ?_) (fun c_7 => ?_)
  · refine zj_iload_n (pc := 33) C dX7_gates_33 rfl ?_
    exact zj_iretF C hr hlocks dX7_gates_34 (by rw [show k = 14 by omega]) (by rw [h2 (by omega)])
  · refine zj_iload_n (pc := 10) C dX7_gates_10 rfl ?_
    refine zj_aload_n (pc := 11) C dX7_gates_11 rfl ?_
    refine zj_iload_n (pc := 12) C dX7_gates_12 rfl ?_
    refine zj_iconst (pc := 13) (v := nI 1) C dX7_gates_13 (by decide) ?_
    refine zq_callF (pc := 14) (bs' := (mB G m g ga gh kn gk kp tx ln (izV g) wy wa tt rr we sp wr er)) C kv_X7_202 (m_X7_districtsOf (og := true) hv (by omega)) dX7_gates_14 rfl rfl rfl rfl rfl rfl ⟨0, rfl⟩ rfl rfl ?_
    refine zq_if_eq (pc := 17) 24 C dX7_gates_17 (by decide) (by omega) (fun c_17 => ?_) (fun c_17 => ?_)
    · refine zj_iconst (pc := 24) (v := nI 0) C dX7_gates_24 (by decide) ?_
      refine zq_iadd (pc := 25) C dX7_gates_25 ?_
      refine zj_top (x' := nI (cntB (fun x => !(bitS (gdB g true x) 4 == 0)) k)) rfl ?_
      refine zj_top (x' := nI (cntB (fun x => !(bitS (gdB g true x) 4 == 0)) (k + 1))) (congrArg nI (cntB_f (p := fun x => !(bitS (gdB g true x) 4 == 0)) (by simp [c_17])).symm) ?_
      refine zj_istore_n (pc := 26) C dX7_gates_26 (Nat.le_of_ble_eq_true rfl) ?_
      refine zj_iinc (pc := 27) (v := nI (k + 1)) C dX7_gates_27 rfl (nI_1 _) ?_
      refine zj_goto (pc := 30) (tgt := 4) C dX7_gates_30 (by decide) ?_
      refine zj_keep [true, true, true] ?_
      exact ih_4 (k + 1) (izV g) ⟨by omega, fun _ => rfl⟩ (by omega)
    · refine zj_iconst (pc := 20) (v := nI 1) C dX7_gates_20 (by decide) ?_
      refine zj_goto (pc := 21) (tgt := 25) C dX7_gates_21 (by decide) ?_
      refine zq_iadd (pc := 25) C dX7_gates_25 ?_
      refine zj_top (x' := nI (cntB (fun x => !(bitS (gdB g true x) 4 == 0)) (k + 1))) (congrArg nI (cntB_t (p := fun x => !(bitS (gdB g true x) 4 == 0)) (by simp [c_17])).symm) ?_
      refine zj_istore_n (pc := 26) C dX7_gates_26 (Nat.le_of_ble_eq_true rfl) ?_
      refine zj_iinc (pc := 27) (v := nI (k + 1)) C dX7_gates_27 rfl (nI_1 _) ?_
      refine zj_goto (pc := 30) (tgt := 4) C dX7_gates_30 (by decide) ?_
      refine zj_keep [true, true, true] ?_
      exact ih_4 (k + 1) (izV g) ⟨by omega, fun _ => rfl⟩ (by omega)
set_option maxRecDepth 100000 in
set_option maxHeartbeats 4000000 in
theorem m_X7_within {l : Launch} {G : GG} {m : Nat → Nat} {g ga gh : Nat → Nat} {kn : Nat} {gk : Nat → Nat} {kp : Bool} {tx : Nat → Nat} {ln : Nat} {iz wy wa tt rr we : Nat → Nat} {sp : Nat} {wr : Bool} {er : Int32} {d x y : Int32} (hv : Vk g) : zX l G yX7_within cX7_within 4 (some .int) 4 91 0 0 [.ref (m 0), .int (d), .int (x), .int (y)] (mB G m g ga gh kn gk kp tx ln iz wy wa tt rr we sp wr er).flatten (zQ (some (.int (rWI g d x y))) G m g ga gh kn gk kp tx ln sp wr er) := by
  refine zj_startF RX7 (by decide +kernel) rfl rfl rfl (bs := (mB G m g ga gh kn gk kp tx ln iz wy wa tt rr we sp wr er)) rfl (lo := [some (.ref (m 0)), some (.int (d)), some (.int (x)), some (.int (y))]) rfl ?_
  intro p0 e0 s0 m0 args0 below0 meth0 c0 A0 C hr hlocks
  have hl := Vk_l hv
  refine zj_iload_n (pc := 0) C dX7_within_0 rfl ?_
  refine zj_callSF (pc := 1) C kv_X7_128 (m_X7_isDistrict) dX7_within_1 rfl rfl rfl rfl rfl rfl ?_
  refine zj_ifb_eq (pc := 4) 21 C dX7_within_4 (by decide) (fun c_4 => ?_) (fun c_4 => ?_)
  · have ho : rWI g d x y = -1 := by unfold rWI; rw [if_neg (by simp [c_4])]
    refine zj_iconst (pc := 21) (v := (-1)) C dX7_within_21 (by decide) ?_
    refine zj_iret C hr hlocks dX7_within_22 ?_
    exact zQ_mk ho.symm
  · refine zj_iload_n (pc := 7) C dX7_within_7 rfl ?_
    refine zj_callSF (pc := 8) C kv_X7_125 (m_X7_isCrossing) dX7_within_8 rfl rfl rfl rfl rfl rfl ?_
    refine zj_ifb_eq (pc := 11) 21 C dX7_within_11 (by decide) (fun c_11 => ?_) (fun c_11 => ?_)
    · have ho : rWI g d x y = -1 := by unfold rWI; rw [if_neg (by simp [c_4, c_11])]
      refine zj_iconst (pc := 21) (v := (-1)) C dX7_within_21 (by decide) ?_
      refine zj_iret C hr hlocks dX7_within_22 ?_
      exact zQ_mk ho.symm
    · refine zj_iload_n (pc := 14) C dX7_within_14 rfl ?_
      refine zj_callSF (pc := 15) C kv_X7_125 (m_X7_isCrossing) dX7_within_15 rfl rfl rfl rfl rfl rfl ?_
      refine zj_ifb_ne (pc := 18) 23 C dX7_within_18 (by decide) (fun c_18 => ?_) (fun c_18 => ?_)
      · obtain ⟨d0, hd, rfl⟩ := isDi_n c_4
        obtain ⟨x0, hx, rfl⟩ := isC_n c_11
        obtain ⟨y0, hy, rfl⟩ := isC_n c_18
        have e1 : (nI d0).toNatClampNeg = d0 := nI_clamp (by omega)
        have e2 : (nI x0).toNatClampNeg = x0 := nI_clamp (by omega)
        have e3 : (nI y0).toNatClampNeg = y0 := nI_clamp (by omega)
        have h1M := dst_1M hl (d := d0) hx hy
        have ho : rWI g (nI d0) (nI x0) (nI y0) = nFar (dst g d0 x0 y0) := by unfold rWI; rw [if_pos (by rw [c_4, c_11, c_18]; rfl), e1, e2, e3]
        have eW : blk wy d0 (dsF g d0) (196 * d0 + 14 * x0 + y0) = dst g d0 x0 y0 := by rw [bk_at hx hy]; unfold dsF; rw [(fx hy).1, (fx hy).2]
        refine zj_aload_n (pc := 23) C dX7_within_23 rfl ?_
        refine zq_callFn (pc := 24) (bs' := (mB G m g ga gh kn gk kp tx ln (izV g) wy wa tt rr we sp wr er)) C kv_X7_96 (m_X7_looks hv) dX7_within_24 rfl rfl rfl rfl rfl rfl ⟨0, rfl⟩ rfl rfl ?_
        refine zj_aload_n (pc := 27) C dX7_within_27 rfl ?_
        refine zj_iload_n (pc := 28) C dX7_within_28 rfl ?_
        refine zq_callFn (pc := 29) (bs' := (mB G m g ga gh kn gk kp tx ln (izV g) (blk wy d0 (dsF g d0)) wa tt rr we sp wr er)) C kv_X7_99 (m_X7_worksOut hv (by omega)) dX7_within_29 rfl rfl rfl rfl rfl rfl ⟨0, rfl⟩ rfl rfl ?_
        refine zj_aload_n (pc := 32) C dX7_within_32 rfl ?_
        refine zj_iload_n (pc := 33) C dX7_within_33 rfl ?_
        refine zj_iload_n (pc := 34) C dX7_within_34 rfl ?_
        refine zj_iload_n (pc := 35) C dX7_within_35 rfl ?_
        refine zq_callP (pc := 36) C kv_X7_76 (m_X7_way (by omega) (by omega) (by omega)) dX7_within_36 rfl rfl rfl rfl rfl rfl ⟨0, rfl⟩ rfl rfl ?_
        refine zj_top (x' := nI (dst g d0 x0 y0)) (congrArg nI eW) ?_
        refine zj_ldc (pc := 39) (v := nI 1000000) C dX7_within_39 aq_1022 ?_
        refine zq_icmp_ge (pc := 41) 54 C dX7_within_41 (by decide) (by omega) (by omega) (fun c_41 => ?_) (fun c_41 => ?_)
        · refine zj_bipush (pc := 54) (v := (-5)) C dX7_within_54 (by decide) ?_
          refine zj_iret C hr hlocks dX7_within_56 ?_
          exact zQ_mk (by rw [ho]; unfold nFar; rw [if_neg (by omega)])
        · refine zj_aload_n (pc := 44) C dX7_within_44 rfl ?_
          refine zj_iload_n (pc := 45) C dX7_within_45 rfl ?_
          refine zj_iload_n (pc := 46) C dX7_within_46 rfl ?_
          refine zj_iload_n (pc := 47) C dX7_within_47 rfl ?_
          refine zq_callP (pc := 48) C kv_X7_76 (m_X7_way (by omega) (by omega) (by omega)) dX7_within_48 rfl rfl rfl rfl rfl rfl ⟨0, rfl⟩ rfl rfl ?_
          refine zj_top (x' := nI (dst g d0 x0 y0)) (congrArg nI eW) ?_
          refine zj_goto (pc := 51) (tgt := 56) C dX7_within_51 (by decide) ?_
          refine zj_iret C hr hlocks dX7_within_56 ?_
          exact zQ_mk (by rw [ho]; unfold nFar; rw [if_pos c_41])
      · have ho : rWI g d x y = -1 := by unfold rWI; rw [if_neg (by simp [c_4, c_11, c_18])]
        refine zj_iconst (pc := 21) (v := (-1)) C dX7_within_21 (by decide) ?_
        refine zj_iret C hr hlocks dX7_within_22 ?_
        exact zQ_mk ho.symm
set_option maxRecDepth 100000 in
set_option maxHeartbeats 4000000 in
theorem m_X7_crossingOf {l : Launch} {G : GG} {m : Nat → Nat} {g ga gh : Nat → Nat} {kn : Nat} {gk : Nat → Nat} {kp : Bool} {tx : Nat → Nat} {ln : Nat} {iz wy wa tt rr we : Nat → Nat} {sp : Nat} {wr : Bool} {er : Int32} {x w : Int32} (hv : Vk g) : zX l G yX7_crossingOf cX7_crossingOf 3 (some .int) 6 141 0 0 [.ref (m 0), .int (x), .int (w)] (mB G m g ga gh kn gk kp tx ln iz wy wa tt rr we sp wr er).flatten (zQ (some (.int (rCO g x w))) G m g ga gh kn gk kp tx ln sp wr er) := by
  refine zj_startF RX7 (by decide +kernel) rfl rfl rfl (bs := (mB G m g ga gh kn gk kp tx ln iz wy wa tt rr we sp wr er)) rfl (lo := [some (.ref (m 0)), some (.int (x)), some (.int (w))]) rfl ?_
  intro p0 e0 s0 m0 args0 below0 meth0 c0 A0 C hr hlocks
  refine zj_iload_n (pc := 0) C dX7_crossingOf_0 rfl ?_
  refine zj_callSF (pc := 1) C kv_X7_125 (m_X7_isCrossing) dX7_crossingOf_1 rfl rfl rfl rfl rfl rfl ?_
  refine zj_ifb_ne (pc := 4) 9 C dX7_crossingOf_4 (by decide) (fun c_4 => ?_) (fun c_4 => ?_)
  · obtain ⟨x0, hx, rfl⟩ := isC_n c_4
    have ex : (nI x0).toNatClampNeg = x0 := nI_clamp (by omega)
    refine zj_iload_n (pc := 9) C dX7_crossingOf_9 rfl ?_
    rcases sw_6 w with rfl | rfl | rfl | rfl | rfl | rfl | h99
    · have ho : rCO g (nI x0) 0 = nI (g x0) := by unfold rCO; rw [c_4, if_pos rfl, ex, if_pos rfl]
      refine zj_tableIn (pc := 10) 48 C dX7_crossingOf_10 (by decide) (by decide) rfl (by decide) ?_
      refine zj_aload_n (pc := 48) C dX7_crossingOf_48 rfl ?_
      refine gf_X7_0 (pc := 49) C dX7_crossingOf_49 0 rfl ?_
      refine zj_iconst (pc := 52) (v := nI 0) C dX7_crossingOf_52 (by decide) ?_
      refine zj_iload_n (pc := 53) C dX7_crossingOf_53 rfl ?_
      refine zq_iadd (pc := 54) C dX7_crossingOf_54 ?_
      refine zj_top (x' := nI (x0)) (congrArg nI (Nat.zero_add _)) ?_
      refine zq_iald (pc := 55) C dX7_crossingOf_55 1 rfl (by omega) (by decide) ?_
      refine zj_iret C hr hlocks dX7_crossingOf_56 ?_
      exact zQ_mk ho.symm
    · have ho : rCO g (nI x0) 1 = nI (bitS (gdB g false x0) 4) := by unfold rCO; rw [c_4, if_pos rfl, ex, if_neg (by decide), if_pos rfl]
      refine zj_tableIn (pc := 10) 57 C dX7_crossingOf_10 (by decide) (by decide) rfl (by decide) ?_
      refine zj_loc (lo' := [some (.ref (m 0)), some (.int (nI x0)), some (.int (nI 1))]) rfl ?_
      refine zj_aload_n (pc := 57) C dX7_crossingOf_57 rfl ?_
      refine zj_iload_n (pc := 58) C dX7_crossingOf_58 rfl ?_
      refine zj_iload_n (pc := 59) C dX7_crossingOf_59 rfl ?_
      refine zj_iconst (pc := 60) (v := nI 2) C dX7_crossingOf_60 (by decide) ?_
      refine zq_mrg 69 [.int (nI (x0)), .ref (m 0)] (bI (decide (1 = 2))) ?_ (fun kk => ?_)
      · refine zq_callF (pc := 69) (bs' := (mB G m g ga gh kn gk kp tx ln (izV g) wy wa tt rr we sp wr er)) C kv_X7_202 (m_X7_districtsOf hv (by omega)) dX7_crossingOf_69 rfl rfl rfl rfl rfl rfl ⟨0, rfl⟩ rfl rfl ?_
        refine zj_iret C hr hlocks dX7_crossingOf_72 ?_
        exact zQ_mk ho.symm
      · refine zq_icmp_ne (pc := 61) 68 C dX7_crossingOf_61 (by decide) (by omega) (by omega) (fun c_61 => ?_) (fun c_61 => ?_)
        · refine zj_iconst (pc := 68) (v := nI 0) C dX7_crossingOf_68 (by decide) ?_
          exact zj_top (x' := bI (decide (1 = 2))) (zq_f (by first | rfl | (simp [c_61]; done) | (simp [c_61]; omega) | omega | (split <;> first | rfl | omega))) kk
        · refine zj_iconst (pc := 64) (v := nI 1) C dX7_crossingOf_64 (by decide) ?_
          refine zj_goto (pc := 65) (tgt := 69) C dX7_crossingOf_65 (by decide) ?_
          exact zj_top (x' := bI (decide (1 = 2))) (zq_t (by first | rfl | (simp [c_61]; done) | (simp [c_61]; omega) | omega | (split <;> first | rfl | omega))) kk
    · have ho : rCO g (nI x0) 2 = nI (bitS (gdB g true x0) 4) := by unfold rCO; rw [c_4, if_pos rfl, ex, if_neg (by decide), if_neg (by decide), if_pos rfl]
      refine zj_tableIn (pc := 10) 57 C dX7_crossingOf_10 (by decide) (by decide) rfl (by decide) ?_
      refine zj_loc (lo' := [some (.ref (m 0)), some (.int (nI x0)), some (.int (nI 2))]) rfl ?_
      refine zj_aload_n (pc := 57) C dX7_crossingOf_57 rfl ?_
      refine zj_iload_n (pc := 58) C dX7_crossingOf_58 rfl ?_
      refine zj_iload_n (pc := 59) C dX7_crossingOf_59 rfl ?_
      refine zj_iconst (pc := 60) (v := nI 2) C dX7_crossingOf_60 (by decide) ?_
      refine zq_mrg 69 [.int (nI (x0)), .ref (m 0)] (bI (decide (2 = 2))) ?_ (fun kk => ?_)
      · refine zq_callF (pc := 69) (bs' := (mB G m g ga gh kn gk kp tx ln (izV g) wy wa tt rr we sp wr er)) C kv_X7_202 (m_X7_districtsOf hv (by omega)) dX7_crossingOf_69 rfl rfl rfl rfl rfl rfl ⟨0, rfl⟩ rfl rfl ?_
        refine zj_iret C hr hlocks dX7_crossingOf_72 ?_
        exact zQ_mk ho.symm
      · refine zq_icmp_ne (pc := 61) 68 C dX7_crossingOf_61 (by decide) (by omega) (by omega) (fun c_61 => ?_) (fun c_61 => ?_)
        · refine zj_iconst (pc := 68) (v := nI 0) C dX7_crossingOf_68 (by decide) ?_
          exact zj_top (x' := bI (decide (2 = 2))) (zq_f (by first | rfl | (simp [c_61]; done) | (simp [c_61]; omega) | omega | (split <;> first | rfl | omega))) kk
        · refine zj_iconst (pc := 64) (v := nI 1) C dX7_crossingOf_64 (by decide) ?_
          refine zj_goto (pc := 65) (tgt := 69) C dX7_crossingOf_65 (by decide) ?_
          exact zj_top (x' := bI (decide (2 = 2))) (zq_t (by first | rfl | (simp [c_61]; done) | (simp [c_61]; omega) | omega | (split <;> first | rfl | omega))) kk
    · have ho : rCO g (nI x0) 3 = nI (cntB (fun i => hasCk g i && ck g i == x0) (kL g)) := by unfold rCO; rw [c_4, if_pos rfl, ex, if_neg (by decide), if_neg (by decide), if_neg (by decide), if_pos rfl]
      refine zj_tableIn (pc := 10) 73 C dX7_crossingOf_10 (by decide) (by decide) rfl (by decide) ?_
      refine zj_aload_n (pc := 73) C dX7_crossingOf_73 rfl ?_
      refine zj_iload_n (pc := 74) C dX7_crossingOf_74 rfl ?_
      refine zq_callP (pc := 75) C kv_X7_206 (m_X7_lanesOf hv (by omega)) dX7_crossingOf_75 rfl rfl rfl rfl rfl rfl ⟨0, rfl⟩ rfl rfl ?_
      refine zj_iret C hr hlocks dX7_crossingOf_78 ?_
      exact zQ_mk ho.symm
    · have ho : rCO g (nI x0) 4 = nI (tso g false x0 (kA g)) := by unfold rCO; rw [c_4, if_pos rfl, ex, if_neg (by decide), if_neg (by decide), if_neg (by decide), if_neg (by decide), if_pos rfl]
      refine zj_tableIn (pc := 10) 79 C dX7_crossingOf_10 (by decide) (by decide) rfl (by decide) ?_
      refine zj_loc (lo' := [some (.ref (m 0)), some (.int (nI x0)), some (.int (nI 4))]) rfl ?_
      refine zj_aload_n (pc := 79) C dX7_crossingOf_79 rfl ?_
      refine zj_iload_n (pc := 80) C dX7_crossingOf_80 rfl ?_
      refine zj_iload_n (pc := 81) C dX7_crossingOf_81 rfl ?_
      refine zj_iconst (pc := 82) (v := nI 5) C dX7_crossingOf_82 (by decide) ?_
      refine zq_mrg 91 [.int (nI (x0)), .ref (m 0)] (bI (decide (4 = 5))) ?_ (fun kk => ?_)
      · refine zq_callF (pc := 91) (bs' := (mB G m g ga gh kn gk kp tx ln (izV g) (wyV g) wa (ttV g tt) (rrV g rr) we sp wr er)) C kv_X7_209 (m_X7_totalsOf hv (by omega)) dX7_crossingOf_91 rfl rfl rfl rfl rfl rfl ⟨0, rfl⟩ rfl rfl ?_
        refine zj_iret C hr hlocks dX7_crossingOf_94 ?_
        exact zQ_mk ho.symm
      · refine zq_icmp_ne (pc := 83) 90 C dX7_crossingOf_83 (by decide) (by omega) (by omega) (fun c_83 => ?_) (fun c_83 => ?_)
        · refine zj_iconst (pc := 90) (v := nI 0) C dX7_crossingOf_90 (by decide) ?_
          exact zj_top (x' := bI (decide (4 = 5))) (zq_f (by first | rfl | (simp [c_83]; done) | (simp [c_83]; omega) | omega | (split <;> first | rfl | omega))) kk
        · refine zj_iconst (pc := 86) (v := nI 1) C dX7_crossingOf_86 (by decide) ?_
          refine zj_goto (pc := 87) (tgt := 91) C dX7_crossingOf_87 (by decide) ?_
          exact zj_top (x' := bI (decide (4 = 5))) (zq_t (by first | rfl | (simp [c_83]; done) | (simp [c_83]; omega) | omega | (split <;> first | rfl | omega))) kk
    · have ho : rCO g (nI x0) 5 = nI (tso g true x0 (kA g)) := by unfold rCO; rw [c_4, if_pos rfl, ex, if_neg (by decide), if_neg (by decide), if_neg (by decide), if_neg (by decide), if_neg (by decide), if_pos rfl]
      refine zj_tableIn (pc := 10) 79 C dX7_crossingOf_10 (by decide) (by decide) rfl (by decide) ?_
      refine zj_loc (lo' := [some (.ref (m 0)), some (.int (nI x0)), some (.int (nI 5))]) rfl ?_
      refine zj_aload_n (pc := 79) C dX7_crossingOf_79 rfl ?_
      refine zj_iload_n (pc := 80) C dX7_crossingOf_80 rfl ?_
      refine zj_iload_n (pc := 81) C dX7_crossingOf_81 rfl ?_
      refine zj_iconst (pc := 82) (v := nI 5) C dX7_crossingOf_82 (by decide) ?_
      refine zq_mrg 91 [.int (nI (x0)), .ref (m 0)] (bI (decide (5 = 5))) ?_ (fun kk => ?_)
      · refine zq_callF (pc := 91) (bs' := (mB G m g ga gh kn gk kp tx ln (izV g) (wyV g) wa (ttV g tt) (rrV g rr) we sp wr er)) C kv_X7_209 (m_X7_totalsOf hv (by omega)) dX7_crossingOf_91 rfl rfl rfl rfl rfl rfl ⟨0, rfl⟩ rfl rfl ?_
        refine zj_iret C hr hlocks dX7_crossingOf_94 ?_
        exact zQ_mk ho.symm
      · refine zq_icmp_ne (pc := 83) 90 C dX7_crossingOf_83 (by decide) (by omega) (by omega) (fun c_83 => ?_) (fun c_83 => ?_)
        · refine zj_iconst (pc := 90) (v := nI 0) C dX7_crossingOf_90 (by decide) ?_
          exact zj_top (x' := bI (decide (5 = 5))) (zq_f (by first | rfl | (simp [c_83]; done) | (simp [c_83]; omega) | omega | (split <;> first | rfl | omega))) kk
        · refine zj_iconst (pc := 86) (v := nI 1) C dX7_crossingOf_86 (by decide) ?_
          refine zj_goto (pc := 87) (tgt := 91) C dX7_crossingOf_87 (by decide) ?_
          exact zj_top (x' := bI (decide (5 = 5))) (zq_t (by first | rfl | (simp [c_83]; done) | (simp [c_83]; omega) | omega | (split <;> first | rfl | omega))) kk
    · have ho : rCO g (nI x0) w = -2 := by
        unfold rCO
        rw [c_4, if_pos rfl, if_neg (sw_out h99 (by decide) (by decide)), if_neg (sw_out h99 (by decide) (by decide)), if_neg (sw_out h99 (by decide) (by decide)), if_neg (sw_out h99 (by decide) (by decide)), if_neg (sw_out h99 (by decide) (by decide)), if_neg (sw_out h99 (by decide) (by decide))]
      refine zj_tableOut (pc := 10) 95 C dX7_crossingOf_10 h99 (by decide) ?_
      refine zj_bipush (pc := 95) (v := (-2)) C dX7_crossingOf_95 (by decide) ?_
      refine zj_iret C hr hlocks dX7_crossingOf_97 ?_
      exact zQ_mk ho.symm
  · have ho : rCO g x w = -1 := by unfold rCO; rw [c_4]; rfl
    refine zj_iconst (pc := 7) (v := (-1)) C dX7_crossingOf_7 (by decide) ?_
    refine zj_iret C hr hlocks dX7_crossingOf_8 ?_
    exact zQ_mk ho.symm
