theorem refL_0 {k : Nat} {x y len : Int32} (h : refL k x y len = 0) : ¬ len < 1 ∧ ¬ 20 < len ∧ ¬ x = y ∧ k ≠ 24 := by
  unfold refL at h
  split at h
  · cases h
  · rename_i h1
    split at h
    · cases h
    · rename_i h2
      exact ⟨fun q => h1 (Or.inl q), fun q => h1 (Or.inr (Or.inl q)), fun q => h1 (Or.inr (Or.inr q)), h2⟩
theorem refA_0 {k : Nat} {len : Int32} (h : refA k len = 0) : ¬ len < 0 ∧ ¬ 20 < len ∧ k ≠ 12 := by
  unfold refA at h
  split at h
  · cases h
  · rename_i h1
    split at h
    · cases h
    · rename_i h2
      exact ⟨fun q => h1 (Or.inl q), fun q => h1 (Or.inr q), h2⟩
theorem bI_inj {a b : Bool} : bI a = bI b ↔ a = b := by cases a <;> cases b <;> simp [bI]
def okLn (k : Nat) (x y ln d : Int32) : Bool := (isC x && (isC y && isDi d)) && decide (refL k x y ln = 0)
def aLn (k : Nat) (x y ln d : Int32) : Int32 := if isC x && (isC y && isDi d) then (if refL k x y ln = 0 then nI k else refL k x y ln) else -1
def okAl (k : Nat) (x ln d : Int32) : Bool := (isC x && isDi d) && decide (refA k ln = 0)
def aAl (k : Nat) (x ln d : Int32) : Int32 := if isC x && isDi d then (if refA k ln = 0 then nI k else refA k ln) else -1
def okRk (g : Nat → Nat) (x r : Int32) : Bool := isC x && (!(decide (r < 0)) && (!(decide (9 < r)) && !(decide (nI (g x.toNatClampNeg) = r))))
def aRk (g : Nat → Nat) (x r : Int32) : Int32 := if isC x then (if r < 0 ∨ 9 < r then -2 else if nI (g x.toNatClampNeg) = r then -5 else nI (g x.toNatClampNeg)) else -1
def okCl (g : Nat → Nat) (x : Int32) (b : Bool) : Bool := tHas (nI (kL g)) x && !(decide ((!(lnC g x.toNatClampNeg 4 == 0)) = b))
def aCl (g : Nat → Nat) (x : Int32) (b : Bool) : Int32 := if tHas (nI (kL g)) x then (if (!(lnC g x.toNatClampNeg 4 == 0)) = b then -5 else nI (cntB (told (gCl g x.toNatClampNeg (if b then 1 else 0))) (kL g))) else -1

set_option maxRecDepth 100000 in
set_option maxHeartbeats 4000000 in
theorem m_X6_lane {l : Launch} {G : GG} {ad : Nat → Nat → Nat} {q : Nat → Nat → Nat} {P Pd Ps : PC} {kp : Bool} {HP : Nat → PC} {hn : Nat} {t : Nat → Nat} {tn : Nat} {T : T7} {W1 W2 : TC} {st : Bool} {g : Nat → Nat} {x y ln d : Int32} (hP : PR g P) (hv : Vg g) (hh : hn ≤ 4) : zX l G yX6_lane cX6_lane 6 (some .int) 5 110 0 0 [.ref (ad 0 0), .int x, .int y, .int ln, .int d] (cls G ad q P Pd Ps kp HP hn t tn T W1 W2 st) (zF (some (.int (aLn (kL g) x y ln d))) (if okLn (kL g) x y ln d then cls G ad (hQ q hn) (P.1, pAdd P.2.1 (kL g) x y ln d, nI (kL g + 1), P.2.2.2.1, P.2.2.2.2) Pd Ps kp (hP' HP hn P) (hN hn) t tn T W1 W2 true else cls G ad q P Pd Ps kp HP hn t tn T W1 W2 st)) := by
  refine zj_startF RX6 (by decide +kernel) rfl rfl rfl (bs := [[((ad 0 0), .inr (6, [.ref (ad 1 0), .ref (ad 2 0), .ref (ad 3 0), .int (bI kp), .ref (ad 4 0), .ref (ad 5 0), .ref (ad 6 0), .ref (ad 7 0), .int (bI st)]))], plan G (ad 1) P, plan G (ad 2) Pd, plan G (ad 3) Ps, hist G (ad 4) q HP hn, text G (ad 5 0) (ad 5 1) t tn T, totT G (ad 6) W1, totT G (ad 7) W2]) rfl (lo := [some (.ref (ad 0 0)), some (.int x), some (.int y), some (.int ln), some (.int d), none]) rfl ?_
  intro p0 e0 s0 m0 args0 below0 meth0 c0 A0 C hr hlocks
  refine zj_iload_n (pc := 0) C dX6_lane_0 rfl ?_
  refine zj_callSF (pc := 1) C kv_X6_53 (m_X6_isCrossing) dX6_lane_1 rfl rfl rfl rfl rfl rfl ?_
  refine zj_ifb_eq (pc := 4) 22 C dX6_lane_4 (by decide) (fun c_4 => ?_) (fun c_4 => ?_)
  · refine zj_iconst (pc := 22) (v := (-1)) C dX6_lane_22 (by decide) ?_
    exact zj_iretF C hr hlocks dX6_lane_23 (by simp [aLn, c_4]) (by rw [if_neg (by simp [okLn, c_4])]; rfl)
  · refine zj_iload_n (pc := 7) C dX6_lane_7 rfl ?_
    refine zj_callSF (pc := 8) C kv_X6_53 (m_X6_isCrossing) dX6_lane_8 rfl rfl rfl rfl rfl rfl ?_
    refine zj_ifb_eq (pc := 11) 22 C dX6_lane_11 (by decide) (fun c_11 => ?_) (fun c_11 => ?_)
    · refine zj_iconst (pc := 22) (v := (-1)) C dX6_lane_22 (by decide) ?_
      exact zj_iretF C hr hlocks dX6_lane_23 (by simp [aLn, c_4, c_11]) (by rw [if_neg (by simp [okLn, c_4, c_11])]; rfl)
    · refine zj_iload (pc := 14) C dX6_lane_14 rfl ?_
      refine zj_callSF (pc := 16) C kv_X6_57 (m_X6_isDistrict) dX6_lane_16 rfl rfl rfl rfl rfl rfl ?_
      refine zj_ifb_ne (pc := 19) 24 C dX6_lane_19 (by decide) (fun c_19 => ?_) (fun c_19 => ?_)
      · refine zj_aload_n (pc := 24) C dX6_lane_24 rfl ?_
        refine gf_X6_0 (pc := 25) C dX6_lane_25 0 rfl ?_
        refine zj_iload_n (pc := 28) C dX6_lane_28 rfl ?_
        refine zj_iload_n (pc := 29) C dX6_lane_29 rfl ?_
        refine zj_iload_n (pc := 30) C dX6_lane_30 rfl ?_
        refine zj_callP1 (pc := 31) C kv_X6_60 (m_X1_refusalOfLane hP hv) dX6_lane_31 1 rfl rfl rfl rfl rfl rfl rfl ⟨0, rfl⟩ rfl rfl ?_
        refine zj_istore (pc := 34) C dX6_lane_34 (Nat.le_of_ble_eq_true rfl) ?_
        refine zj_iload (pc := 36) C dX6_lane_36 rfl ?_
        refine zj_if_eq (pc := 38) 44 C dX6_lane_38 (by decide) (fun c_38 => ?_) (fun c_38 => ?_)
        · refine zj_aload_n (pc := 44) C dX6_lane_44 rfl ?_
          refine zj_callA (pc := 45) C kv_X6_64 (m_X6_beginAct hh) dX6_lane_45 [0, 1, 2, 3, 4, 5, 6, 7] [] rfl rfl rfl rfl rfl rfl rfl rfl ⟨0, rfl⟩ rfl rfl (fun v w1 hq => ?_)
          obtain ⟨rfl, rfl⟩ := hq
          refine zj_blk (bs' := [[((ad 0 0), .inr (6, [.ref (ad 1 0), .ref (ad 2 0), .ref (ad 3 0), .int (bI kp), .ref (ad 4 0), .ref (ad 5 0), .ref (ad 6 0), .ref (ad 7 0), .int (bI true)]))], plan G (ad 1) P, plan G (ad 2) Pd, plan G (ad 3) Ps, hist G (ad 4) (hQ q hn) (hP' HP hn P) (hN hn), text G (ad 5 0) (ad 5 1) t tn T, totT G (ad 6) W1, totT G (ad 7) W2]) rfl ?_
          refine zj_aload_n (pc := 48) C dX6_lane_48 rfl ?_
          refine gf_X6_0 (pc := 49) C dX6_lane_49 0 rfl ?_
          refine zj_iload_n (pc := 52) C dX6_lane_52 rfl ?_
          refine zj_iload_n (pc := 53) C dX6_lane_53 rfl ?_
          refine zj_iload_n (pc := 54) C dX6_lane_54 rfl ?_
          refine zj_iload (pc := 55) C dX6_lane_55 rfl ?_
          refine zj_callF1 (pc := 57) C kv_X6_67 (m_X1_addLane hP (by have := (refL_0 c_38).2.2.2; have := hv.1; omega)) dX6_lane_57 1 rfl rfl rfl rfl rfl rfl rfl ⟨0, rfl⟩ rfl rfl ?_
          exact zj_iretF C hr hlocks dX6_lane_60 (by simp [aLn, c_4, c_11, c_19, c_38]) (by rw [if_pos (by simp [okLn, c_4, c_11, c_19, c_38])]; rfl)
        · refine zj_iload (pc := 41) C dX6_lane_41 rfl ?_
          exact zj_iretF C hr hlocks dX6_lane_43 (by simp [aLn, c_4, c_11, c_19, c_38]) (by rw [if_neg (by simp [okLn, c_4, c_11, c_19, c_38])]; rfl)
      · refine zj_iconst (pc := 22) (v := (-1)) C dX6_lane_22 (by decide) ?_
        exact zj_iretF C hr hlocks dX6_lane_23 (by simp [aLn, c_4, c_11, c_19]) (by rw [if_neg (by simp [okLn, c_4, c_11, c_19])]; rfl)
set_option maxRecDepth 100000 in
set_option maxHeartbeats 4000000 in
theorem m_X6_alley {l : Launch} {G : GG} {ad : Nat → Nat → Nat} {q : Nat → Nat → Nat} {P Pd Ps : PC} {kp : Bool} {HP : Nat → PC} {hn : Nat} {t : Nat → Nat} {tn : Nat} {T : T7} {W1 W2 : TC} {st : Bool} {g : Nat → Nat} {x ln d : Int32} (hP : PR g P) (hv : Vg g) (hh : hn ≤ 4) : zX l G yX6_alley cX6_alley 5 (some .int) 5 110 0 0 [.ref (ad 0 0), .int x, .int ln, .int d] (cls G ad q P Pd Ps kp HP hn t tn T W1 W2 st) (zF (some (.int (aAl (kA g) x ln d))) (if okAl (kA g) x ln d then cls G ad (hQ q hn) (P.1, P.2.1, P.2.2.1, pAddA P.2.2.2.1 (kA g) x ln d, nI (kA g + 1)) Pd Ps kp (hP' HP hn P) (hN hn) t tn T W1 W2 true else cls G ad q P Pd Ps kp HP hn t tn T W1 W2 st)) := by
  refine zj_startF RX6 (by decide +kernel) rfl rfl rfl (bs := [[((ad 0 0), .inr (6, [.ref (ad 1 0), .ref (ad 2 0), .ref (ad 3 0), .int (bI kp), .ref (ad 4 0), .ref (ad 5 0), .ref (ad 6 0), .ref (ad 7 0), .int (bI st)]))], plan G (ad 1) P, plan G (ad 2) Pd, plan G (ad 3) Ps, hist G (ad 4) q HP hn, text G (ad 5 0) (ad 5 1) t tn T, totT G (ad 6) W1, totT G (ad 7) W2]) rfl (lo := [some (.ref (ad 0 0)), some (.int x), some (.int ln), some (.int d), none]) rfl ?_
  intro p0 e0 s0 m0 args0 below0 meth0 c0 A0 C hr hlocks
  refine zj_iload_n (pc := 0) C dX6_alley_0 rfl ?_
  refine zj_callSF (pc := 1) C kv_X6_53 (m_X6_isCrossing) dX6_alley_1 rfl rfl rfl rfl rfl rfl ?_
  refine zj_ifb_eq (pc := 4) 14 C dX6_alley_4 (by decide) (fun c_4 => ?_) (fun c_4 => ?_)
  · refine zj_iconst (pc := 14) (v := (-1)) C dX6_alley_14 (by decide) ?_
    exact zj_iretF C hr hlocks dX6_alley_15 (by simp [aAl, c_4]) (by rw [if_neg (by simp [okAl, c_4])]; rfl)
  · refine zj_iload_n (pc := 7) C dX6_alley_7 rfl ?_
    refine zj_callSF (pc := 8) C kv_X6_57 (m_X6_isDistrict) dX6_alley_8 rfl rfl rfl rfl rfl rfl ?_
    refine zj_ifb_ne (pc := 11) 16 C dX6_alley_11 (by decide) (fun c_11 => ?_) (fun c_11 => ?_)
    · refine zj_aload_n (pc := 16) C dX6_alley_16 rfl ?_
      refine gf_X6_0 (pc := 17) C dX6_alley_17 0 rfl ?_
      refine zj_iload_n (pc := 20) C dX6_alley_20 rfl ?_
      refine zj_callP1 (pc := 21) C kv_X6_96 (m_X1_refusalOfAlley hP hv) dX6_alley_21 1 rfl rfl rfl rfl rfl rfl rfl ⟨0, rfl⟩ rfl rfl ?_
      refine zj_istore (pc := 24) C dX6_alley_24 (Nat.le_of_ble_eq_true rfl) ?_
      refine zj_iload (pc := 26) C dX6_alley_26 rfl ?_
      refine zj_if_eq (pc := 28) 34 C dX6_alley_28 (by decide) (fun c_28 => ?_) (fun c_28 => ?_)
      · refine zj_aload_n (pc := 34) C dX6_alley_34 rfl ?_
        refine zj_callA (pc := 35) C kv_X6_64 (m_X6_beginAct hh) dX6_alley_35 [0, 1, 2, 3, 4, 5, 6, 7] [] rfl rfl rfl rfl rfl rfl rfl rfl ⟨0, rfl⟩ rfl rfl (fun v w1 hq => ?_)
        obtain ⟨rfl, rfl⟩ := hq
        refine zj_blk (bs' := [[((ad 0 0), .inr (6, [.ref (ad 1 0), .ref (ad 2 0), .ref (ad 3 0), .int (bI kp), .ref (ad 4 0), .ref (ad 5 0), .ref (ad 6 0), .ref (ad 7 0), .int (bI true)]))], plan G (ad 1) P, plan G (ad 2) Pd, plan G (ad 3) Ps, hist G (ad 4) (hQ q hn) (hP' HP hn P) (hN hn), text G (ad 5 0) (ad 5 1) t tn T, totT G (ad 6) W1, totT G (ad 7) W2]) rfl ?_
        refine zj_aload_n (pc := 38) C dX6_alley_38 rfl ?_
        refine gf_X6_0 (pc := 39) C dX6_alley_39 0 rfl ?_
        refine zj_iload_n (pc := 42) C dX6_alley_42 rfl ?_
        refine zj_iload_n (pc := 43) C dX6_alley_43 rfl ?_
        refine zj_iload_n (pc := 44) C dX6_alley_44 rfl ?_
        refine zj_callF1 (pc := 45) C kv_X6_99 (m_X1_addAlley hP (by have := (refA_0 c_28).2.2; have := hv.2.1; omega)) dX6_alley_45 1 rfl rfl rfl rfl rfl rfl rfl ⟨0, rfl⟩ rfl rfl ?_
        exact zj_iretF C hr hlocks dX6_alley_48 (by simp [aAl, c_4, c_11, c_28]) (by rw [if_pos (by simp [okAl, c_4, c_11, c_28])]; rfl)
      · refine zj_iload (pc := 31) C dX6_alley_31 rfl ?_
        exact zj_iretF C hr hlocks dX6_alley_33 (by simp [aAl, c_4, c_11, c_28]) (by rw [if_neg (by simp [okAl, c_4, c_11, c_28])]; rfl)
    · refine zj_iconst (pc := 14) (v := (-1)) C dX6_alley_14 (by decide) ?_
      exact zj_iretF C hr hlocks dX6_alley_15 (by simp [aAl, c_4, c_11]) (by rw [if_neg (by simp [okAl, c_4, c_11])]; rfl)
set_option maxRecDepth 100000 in
set_option maxHeartbeats 4000000 in
theorem m_X6_takeLane {l : Launch} {G : GG} {ad : Nat → Nat → Nat} {q : Nat → Nat → Nat} {P Pd Ps : PC} {kp : Bool} {HP : Nat → PC} {hn : Nat} {t : Nat → Nat} {tn : Nat} {T : T7} {W1 W2 : TC} {st : Bool} {g : Nat → Nat} {x : Int32} (hP : PR g P) (hv : Vg g) (hh : hn ≤ 4) : zX l G yX6_takeLane cX6_takeLane 2 (some .int) 5 110 0 0 [.ref (ad 0 0), .int x] (cls G ad q P Pd Ps kp HP hn t tn T W1 W2 st) (zF (some (.int (if tHas (nI (kL g)) x then nI (kL g - 1) else -1))) (if tHas (nI (kL g)) x then cls G ad (hQ q hn) (P.1, tShift P.2.1 5 x.toNatClampNeg ((kL g - 1) * 5), nI (kL g - 1), P.2.2.2.1, P.2.2.2.2) Pd Ps kp (hP' HP hn P) (hN hn) t tn T W1 W2 true else cls G ad q P Pd Ps kp HP hn t tn T W1 W2 st)) := by
  refine zj_startF RX6 (by decide +kernel) rfl rfl rfl (bs := [[((ad 0 0), .inr (6, [.ref (ad 1 0), .ref (ad 2 0), .ref (ad 3 0), .int (bI kp), .ref (ad 4 0), .ref (ad 5 0), .ref (ad 6 0), .ref (ad 7 0), .int (bI st)]))], plan G (ad 1) P, plan G (ad 2) Pd, plan G (ad 3) Ps, hist G (ad 4) q HP hn, text G (ad 5 0) (ad 5 1) t tn T, totT G (ad 6) W1, totT G (ad 7) W2]) rfl (lo := [some (.ref (ad 0 0)), some (.int x)]) rfl ?_
  intro p0 e0 s0 m0 args0 below0 meth0 c0 A0 C hr hlocks
  refine zj_aload_n (pc := 0) C dX6_takeLane_0 rfl ?_
  refine gf_X6_0 (pc := 1) C dX6_takeLane_1 0 rfl ?_
  refine zj_iload_n (pc := 4) C dX6_takeLane_4 rfl ?_
  refine zj_callP1 (pc := 5) C kv_X6_71 (m_X1_hasLane hP) dX6_takeLane_5 1 rfl rfl rfl rfl rfl rfl rfl ⟨0, rfl⟩ rfl rfl ?_
  refine zj_ifb_ne (pc := 8) 13 C dX6_takeLane_8 (by decide) (fun c_8 => ?_) (fun c_8 => ?_)
  · obtain ⟨i, hi, hxi⟩ := tHas_s (by have := hv.1; have := hv.2.1; omega) c_8
    refine zj_loc (lo' := [some (.ref (ad 0 0)), some (.int (nI i))]) (by rw [hxi]) ?_
    refine zj_aload_n (pc := 13) C dX6_takeLane_13 rfl ?_
    refine zj_callA (pc := 14) C kv_X6_64 (m_X6_beginAct hh) dX6_takeLane_14 [0, 1, 2, 3, 4, 5, 6, 7] [] rfl rfl rfl rfl rfl rfl rfl rfl ⟨0, rfl⟩ rfl rfl (fun v w1 hq => ?_)
    obtain ⟨rfl, rfl⟩ := hq
    refine zj_blk (bs' := [[((ad 0 0), .inr (6, [.ref (ad 1 0), .ref (ad 2 0), .ref (ad 3 0), .int (bI kp), .ref (ad 4 0), .ref (ad 5 0), .ref (ad 6 0), .ref (ad 7 0), .int (bI true)]))], plan G (ad 1) P, plan G (ad 2) Pd, plan G (ad 3) Ps, hist G (ad 4) (hQ q hn) (hP' HP hn P) (hN hn), text G (ad 5 0) (ad 5 1) t tn T, totT G (ad 6) W1, totT G (ad 7) W2]) rfl ?_
    refine zj_aload_n (pc := 17) C dX6_takeLane_17 rfl ?_
    refine gf_X6_0 (pc := 18) C dX6_takeLane_18 0 rfl ?_
    refine zj_iload_n (pc := 21) C dX6_takeLane_21 rfl ?_
    refine zj_callF1 (pc := 22) C kv_X6_74 (m_X1_removeLane hP hv hi) dX6_takeLane_22 1 rfl rfl rfl rfl rfl rfl rfl ⟨0, rfl⟩ rfl rfl ?_
    have hx9 : x.toNatClampNeg = i := by rw [hxi]; exact nI_clamp (by have := hv.1; have := hv.2.1; omega)
    exact zj_iretF C hr hlocks dX6_takeLane_25 (by rw [if_pos c_8]) (by rw [if_pos c_8, hx9]; rfl)
  · refine zj_iconst (pc := 11) (v := (-1)) C dX6_takeLane_11 (by decide) ?_
    exact zj_iretF C hr hlocks dX6_takeLane_12 (by rw [c_8]; rfl) (by rw [c_8]; rfl)
set_option maxRecDepth 100000 in
set_option maxHeartbeats 4000000 in
theorem m_X6_takeAlley {l : Launch} {G : GG} {ad : Nat → Nat → Nat} {q : Nat → Nat → Nat} {P Pd Ps : PC} {kp : Bool} {HP : Nat → PC} {hn : Nat} {t : Nat → Nat} {tn : Nat} {T : T7} {W1 W2 : TC} {st : Bool} {g : Nat → Nat} {x : Int32} (hP : PR g P) (hv : Vg g) (hh : hn ≤ 4) : zX l G yX6_takeAlley cX6_takeAlley 2 (some .int) 5 110 0 0 [.ref (ad 0 0), .int x] (cls G ad q P Pd Ps kp HP hn t tn T W1 W2 st) (zF (some (.int (if tHas (nI (kA g)) x then nI (kA g - 1) else -1))) (if tHas (nI (kA g)) x then cls G ad (hQ q hn) (P.1, P.2.1, P.2.2.1, tShift P.2.2.2.1 3 x.toNatClampNeg ((kA g - 1) * 3), nI (kA g - 1)) Pd Ps kp (hP' HP hn P) (hN hn) t tn T W1 W2 true else cls G ad q P Pd Ps kp HP hn t tn T W1 W2 st)) := by
  refine zj_startF RX6 (by decide +kernel) rfl rfl rfl (bs := [[((ad 0 0), .inr (6, [.ref (ad 1 0), .ref (ad 2 0), .ref (ad 3 0), .int (bI kp), .ref (ad 4 0), .ref (ad 5 0), .ref (ad 6 0), .ref (ad 7 0), .int (bI st)]))], plan G (ad 1) P, plan G (ad 2) Pd, plan G (ad 3) Ps, hist G (ad 4) q HP hn, text G (ad 5 0) (ad 5 1) t tn T, totT G (ad 6) W1, totT G (ad 7) W2]) rfl (lo := [some (.ref (ad 0 0)), some (.int x)]) rfl ?_
  intro p0 e0 s0 m0 args0 below0 meth0 c0 A0 C hr hlocks
  refine zj_aload_n (pc := 0) C dX6_takeAlley_0 rfl ?_
  refine gf_X6_0 (pc := 1) C dX6_takeAlley_1 0 rfl ?_
  refine zj_iload_n (pc := 4) C dX6_takeAlley_4 rfl ?_
  refine zj_callP1 (pc := 5) C kv_X6_102 (m_X1_hasAlley hP) dX6_takeAlley_5 1 rfl rfl rfl rfl rfl rfl rfl ⟨0, rfl⟩ rfl rfl ?_
  refine zj_ifb_ne (pc := 8) 13 C dX6_takeAlley_8 (by decide) (fun c_8 => ?_) (fun c_8 => ?_)
  · obtain ⟨i, hi, hxi⟩ := tHas_s (by have := hv.1; have := hv.2.1; omega) c_8
    refine zj_loc (lo' := [some (.ref (ad 0 0)), some (.int (nI i))]) (by rw [hxi]) ?_
    refine zj_aload_n (pc := 13) C dX6_takeAlley_13 rfl ?_
    refine zj_callA (pc := 14) C kv_X6_64 (m_X6_beginAct hh) dX6_takeAlley_14 [0, 1, 2, 3, 4, 5, 6, 7] [] rfl rfl rfl rfl rfl rfl rfl rfl ⟨0, rfl⟩ rfl rfl (fun v w1 hq => ?_)
    obtain ⟨rfl, rfl⟩ := hq
    refine zj_blk (bs' := [[((ad 0 0), .inr (6, [.ref (ad 1 0), .ref (ad 2 0), .ref (ad 3 0), .int (bI kp), .ref (ad 4 0), .ref (ad 5 0), .ref (ad 6 0), .ref (ad 7 0), .int (bI true)]))], plan G (ad 1) P, plan G (ad 2) Pd, plan G (ad 3) Ps, hist G (ad 4) (hQ q hn) (hP' HP hn P) (hN hn), text G (ad 5 0) (ad 5 1) t tn T, totT G (ad 6) W1, totT G (ad 7) W2]) rfl ?_
    refine zj_aload_n (pc := 17) C dX6_takeAlley_17 rfl ?_
    refine gf_X6_0 (pc := 18) C dX6_takeAlley_18 0 rfl ?_
    refine zj_iload_n (pc := 21) C dX6_takeAlley_21 rfl ?_
    refine zj_callF1 (pc := 22) C kv_X6_105 (m_X1_removeAlley hP hv hi) dX6_takeAlley_22 1 rfl rfl rfl rfl rfl rfl rfl ⟨0, rfl⟩ rfl rfl ?_
    have hx9 : x.toNatClampNeg = i := by rw [hxi]; exact nI_clamp (by have := hv.1; have := hv.2.1; omega)
    exact zj_iretF C hr hlocks dX6_takeAlley_25 (by rw [if_pos c_8]) (by rw [if_pos c_8, hx9]; rfl)
  · refine zj_iconst (pc := 11) (v := (-1)) C dX6_takeAlley_11 (by decide) ?_
    exact zj_iretF C hr hlocks dX6_takeAlley_12 (by rw [c_8]; rfl) (by rw [c_8]; rfl)
set_option maxRecDepth 100000 in
set_option maxHeartbeats 4000000 in
theorem m_X6_close {l : Launch} {G : GG} {ad : Nat → Nat → Nat} {q : Nat → Nat → Nat} {P Pd Ps : PC} {kp : Bool} {HP : Nat → PC} {hn : Nat} {t : Nat → Nat} {tn : Nat} {T : T7} {W1 W2 : TC} {st : Bool} {g : Nat → Nat} {x : Int32} {b : Bool} (hP : PR g P) (hv : Vg g) (hh : hn ≤ 4) : zX l G yX6_close cX6_close 3 (some .int) 5 111 0 0 [.ref (ad 0 0), .int x, .int (bI b)] (cls G ad q P Pd Ps kp HP hn t tn T W1 W2 st) (zF (some (.int (aCl g x b))) (if okCl g x b then cls G ad (hQ q hn) (P.1, upd P.2.1 (x.toNatClampNeg * 5 + 4) (bI b), P.2.2.1, P.2.2.2.1, P.2.2.2.2) Pd Ps kp (hP' HP hn P) (hN hn) t tn T W1 W2 true else cls G ad q P Pd Ps kp HP hn t tn T W1 W2 st)) := by
  refine zj_startF RX6 (by decide +kernel) rfl rfl rfl (bs := [[((ad 0 0), .inr (6, [.ref (ad 1 0), .ref (ad 2 0), .ref (ad 3 0), .int (bI kp), .ref (ad 4 0), .ref (ad 5 0), .ref (ad 6 0), .ref (ad 7 0), .int (bI st)]))], plan G (ad 1) P, plan G (ad 2) Pd, plan G (ad 3) Ps, hist G (ad 4) q HP hn, text G (ad 5 0) (ad 5 1) t tn T, totT G (ad 6) W1, totT G (ad 7) W2]) rfl (lo := [some (.ref (ad 0 0)), some (.int x), some (.int (bI b))]) rfl ?_
  intro p0 e0 s0 m0 args0 below0 meth0 c0 A0 C hr hlocks
  refine zj_aload_n (pc := 0) C dX6_close_0 rfl ?_
  refine gf_X6_0 (pc := 1) C dX6_close_1 0 rfl ?_
  refine zj_iload_n (pc := 4) C dX6_close_4 rfl ?_
  refine zj_callP1 (pc := 5) C kv_X6_71 (m_X1_hasLane hP) dX6_close_5 1 rfl rfl rfl rfl rfl rfl rfl ⟨0, rfl⟩ rfl rfl ?_
  refine zj_ifb_ne (pc := 8) 13 C dX6_close_8 (by decide) (fun c_8 => ?_) (fun c_8 => ?_)
  · obtain ⟨i, hi, hxi⟩ := tHas_s (by have := hv.1; omega) c_8
    have hx9 : x.toNatClampNeg = i := by rw [hxi]; exact nI_clamp (by have := hv.1; omega)
    refine zj_loc (lo' := [some (.ref (ad 0 0)), some (.int (nI i)), some (.int (bI b))]) (by rw [hxi]) ?_
    refine zj_aload_n (pc := 13) C dX6_close_13 rfl ?_
    refine gf_X6_0 (pc := 14) C dX6_close_14 0 rfl ?_
    refine zj_iload_n (pc := 17) C dX6_close_17 rfl ?_
    refine zj_callP1 (pc := 18) C kv_X6_78 (m_X1_isClosed hP hv hi) dX6_close_18 1 rfl rfl rfl rfl rfl rfl rfl ⟨0, rfl⟩ rfl rfl ?_
    refine zj_iload_n (pc := 21) C dX6_close_21 rfl ?_
    refine zj_icmp_ne (pc := 22) 28 C dX6_close_22 (by decide) (fun c_22 => ?_) (fun c_22 => ?_)
    · refine zj_aload_n (pc := 28) C dX6_close_28 rfl ?_
      refine zj_callA (pc := 29) C kv_X6_64 (m_X6_beginAct hh) dX6_close_29 [0, 1, 2, 3, 4, 5, 6, 7] [] rfl rfl rfl rfl rfl rfl rfl rfl ⟨0, rfl⟩ rfl rfl (fun v w1 hq => ?_)
      obtain ⟨rfl, rfl⟩ := hq
      refine zj_blk (bs' := [[((ad 0 0), .inr (6, [.ref (ad 1 0), .ref (ad 2 0), .ref (ad 3 0), .int (bI kp), .ref (ad 4 0), .ref (ad 5 0), .ref (ad 6 0), .ref (ad 7 0), .int (bI true)]))], plan G (ad 1) P, plan G (ad 2) Pd, plan G (ad 3) Ps, hist G (ad 4) (hQ q hn) (hP' HP hn P) (hN hn), text G (ad 5 0) (ad 5 1) t tn T, totT G (ad 6) W1, totT G (ad 7) W2]) rfl ?_
      refine zj_aload_n (pc := 32) C dX6_close_32 rfl ?_
      refine gf_X6_0 (pc := 33) C dX6_close_33 0 rfl ?_
      refine zj_iload_n (pc := 36) C dX6_close_36 rfl ?_
      refine zj_iload_n (pc := 37) C dX6_close_37 rfl ?_
      refine zj_callF1n (pc := 38) C kv_X6_81 (m_X1_setClosed (b := b) (by have := hv.1; omega)) dX6_close_38 1 rfl rfl rfl rfl rfl rfl rfl ⟨0, rfl⟩ rfl rfl ?_
      refine zj_aload_n (pc := 41) C dX6_close_41 rfl ?_
      refine gf_X6_0 (pc := 42) C dX6_close_42 0 rfl ?_
      refine zj_callP1 (pc := 45) C kv_X6_85 (m_X1_toldLanes (g := gCl g i (if b then 1 else 0)) (P := (P.1, upd P.2.1 (i * 5 + 4) (bI b), P.2.2.1, P.2.2.2.1, P.2.2.2.2)) (by have hb9 : bI b = nI (if b then 1 else 0) := (by cases b <;> rfl); rw [hb9]; exact PR_cl hP hv hi) (Vg_cl hv hi (by cases b <;> decide))) dX6_close_45 1 rfl rfl rfl rfl rfl rfl rfl ⟨0, rfl⟩ rfl rfl ?_
      refine zj_top (x' := nI (cntB (told (gCl g i (if b then 1 else 0))) (kL g))) (by rw [show kL (gCl g i (if b then 1 else 0)) = kL g from uN_n (by omega)]) ?_
      rw [bI_inj] at c_22
      exact zj_iretF C hr hlocks dX6_close_48 (by unfold aCl; rw [if_pos c_8, hx9, if_neg c_22]) (by rw [if_pos (by unfold okCl; rw [hx9, c_8]; simp [c_22]), hx9]; rfl)
    · refine zj_bipush (pc := 25) (v := (-5)) C dX6_close_25 (by decide) ?_
      rw [bI_inj] at c_22
      exact zj_iretF C hr hlocks dX6_close_27 (by unfold aCl; rw [if_pos c_8, hx9, if_pos c_22]) (by rw [if_neg (by unfold okCl; rw [hx9]; simp [c_22])]; rfl)
  · refine zj_iconst (pc := 11) (v := (-1)) C dX6_close_11 (by decide) ?_
    exact zj_iretF C hr hlocks dX6_close_12 (by unfold aCl; rw [c_8]; rfl) (by rw [if_neg (by unfold okCl; rw [c_8]; simp)]; rfl)
