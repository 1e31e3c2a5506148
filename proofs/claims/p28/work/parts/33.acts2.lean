set_option maxRecDepth 100000 in
set_option maxHeartbeats 4000000 in
theorem m_X6_rank {l : Launch} {G : GG} {ad : Nat → Nat → Nat} {q : Nat → Nat → Nat} {P Pd Ps : PC} {kp : Bool} {HP : Nat → PC} {hn : Nat} {t : Nat → Nat} {tn : Nat} {T : T7} {W1 W2 : TC} {st : Bool} {g : Nat → Nat} {x r : Int32} (hP : PR g P) (hv : Vg g) (hh : hn ≤ 4) : zX l G yX6_rank cX6_rank 4 (some .int) 5 110 0 0 [.ref (ad 0 0), .int x, .int r] (cls G ad q P Pd Ps kp HP hn t tn T W1 W2 st) (zF (some (.int (aRk g x r))) (if okRk g x r then cls G ad (hQ q hn) (upd P.1 x.toNatClampNeg r, P.2.1, P.2.2.1, P.2.2.2.1, P.2.2.2.2) Pd Ps kp (hP' HP hn P) (hN hn) t tn T W1 W2 true else cls G ad q P Pd Ps kp HP hn t tn T W1 W2 st)) := by
  refine zj_startF RX6 (by decide +kernel) rfl rfl rfl (bs := [[((ad 0 0), .inr (6, [.ref (ad 1 0), .ref (ad 2 0), .ref (ad 3 0), .int (bI kp), .ref (ad 4 0), .ref (ad 5 0), .ref (ad 6 0), .ref (ad 7 0), .int (bI st)]))], plan G (ad 1) P, plan G (ad 2) Pd, plan G (ad 3) Ps, hist G (ad 4) q HP hn, text G (ad 5 0) (ad 5 1) t tn T, totT G (ad 6) W1, totT G (ad 7) W2]) rfl (lo := [some (.ref (ad 0 0)), some (.int x), some (.int r), none]) rfl ?_
  intro p0 e0 s0 m0 args0 below0 meth0 c0 A0 C hr hlocks
  refine zj_iload_n (pc := 0) C dX6_rank_0 rfl ?_
  refine zj_callSF (pc := 1) C kv_X6_53 (m_X6_isCrossing) dX6_rank_1 rfl rfl rfl rfl rfl rfl ?_
  refine zj_ifb_ne (pc := 4) 9 C dX6_rank_4 (by decide) (fun c_4 => ?_) (fun c_4 => ?_)
  · refine zj_iload_n (pc := 9) C dX6_rank_9 rfl ?_
    refine zj_if_lt (pc := 10) 19 C dX6_rank_10 (by decide) (fun c_10 => ?_) (fun c_10 => ?_)
    · refine zj_bipush (pc := 19) (v := (-2)) C dX6_rank_19 (by decide) ?_
      exact zj_iretF C hr hlocks dX6_rank_21 (by unfold aRk; rw [if_pos c_4, if_pos (Or.inl c_10)]) (by rw [if_neg (by unfold okRk; simp [c_10])]; rfl)
    · refine zj_iload_n (pc := 13) C dX6_rank_13 rfl ?_
      refine zj_bipush (pc := 14) (v := 9) C dX6_rank_14 (by decide) ?_
      refine zj_icmp_le (pc := 16) 22 C dX6_rank_16 (by decide) (fun c_16 => ?_) (fun c_16 => ?_)
      · obtain ⟨j, hj, hxj⟩ := isC_n c_4
        have hx9 : x.toNatClampNeg = j := by rw [hxj]; exact nI_clamp (by omega)
        refine zj_loc (lo' := [some (.ref (ad 0 0)), some (.int (nI j)), some (.int r), none]) (by rw [hxj]) ?_
        refine zj_aload_n (pc := 22) C dX6_rank_22 rfl ?_
        refine gf_X6_0 (pc := 23) C dX6_rank_23 0 rfl ?_
        refine zj_iload_n (pc := 26) C dX6_rank_26 rfl ?_
        refine zj_callP1 (pc := 27) C kv_X6_89 (m_X1_rankOf hP hj) dX6_rank_27 1 rfl rfl rfl rfl rfl rfl rfl ⟨0, rfl⟩ rfl rfl ?_
        refine zj_top (x' := nI (g j)) rfl ?_
        refine zj_istore_n (pc := 30) C dX6_rank_30 (Nat.le_of_ble_eq_true rfl) ?_
        refine zj_iload_n (pc := 31) C dX6_rank_31 rfl ?_
        refine zj_iload_n (pc := 32) C dX6_rank_32 rfl ?_
        refine zj_icmp_ne (pc := 33) 39 C dX6_rank_33 (by decide) (fun c_33 => ?_) (fun c_33 => ?_)
        · refine zj_aload_n (pc := 39) C dX6_rank_39 rfl ?_
          refine zj_callA (pc := 40) C kv_X6_64 (m_X6_beginAct hh) dX6_rank_40 [0, 1, 2, 3, 4, 5, 6, 7] [] rfl rfl rfl rfl rfl rfl rfl rfl ⟨0, rfl⟩ rfl rfl (fun v w1 hq => ?_)
          obtain ⟨rfl, rfl⟩ := hq
          refine zj_blk (bs' := [[((ad 0 0), .inr (6, [.ref (ad 1 0), .ref (ad 2 0), .ref (ad 3 0), .int (bI kp), .ref (ad 4 0), .ref (ad 5 0), .ref (ad 6 0), .ref (ad 7 0), .int (bI true)]))], plan G (ad 1) P, plan G (ad 2) Pd, plan G (ad 3) Ps, hist G (ad 4) (hQ q hn) (hP' HP hn P) (hN hn), text G (ad 5 0) (ad 5 1) t tn T, totT G (ad 6) W1, totT G (ad 7) W2]) rfl ?_
          refine zj_aload_n (pc := 43) C dX6_rank_43 rfl ?_
          refine gf_X6_0 (pc := 44) C dX6_rank_44 0 rfl ?_
          refine zj_iload_n (pc := 47) C dX6_rank_47 rfl ?_
          refine zj_iload_n (pc := 48) C dX6_rank_48 rfl ?_
          refine zj_callF1n (pc := 49) C kv_X6_92 (m_X1_setRank hj) dX6_rank_49 1 rfl rfl rfl rfl rfl rfl rfl ⟨0, rfl⟩ rfl rfl ?_
          refine zj_iload_n (pc := 52) C dX6_rank_52 rfl ?_
          have h99 : ¬ 9 < r := Int32.not_lt.mpr c_16
          have hor : ¬ (r < 0 ∨ 9 < r) := fun h => h.elim c_10 h99
          exact zj_iretF C hr hlocks dX6_rank_53 (by unfold aRk; rw [if_pos c_4, if_neg hor, hx9, if_neg c_33]) (by rw [if_pos (by unfold okRk; rw [hx9]; simp [c_4, c_10, h99, c_33]), hx9]; rfl)
        · refine zj_bipush (pc := 36) (v := (-5)) C dX6_rank_36 (by decide) ?_
          have h99 : ¬ 9 < r := Int32.not_lt.mpr c_16
          have hor : ¬ (r < 0 ∨ 9 < r) := fun h => h.elim c_10 h99
          exact zj_iretF C hr hlocks dX6_rank_38 (by unfold aRk; rw [if_pos c_4, if_neg hor, hx9, if_pos c_33]) (by rw [if_neg (by unfold okRk; rw [hx9]; simp [c_33])]; rfl)
      · refine zj_bipush (pc := 19) (v := (-2)) C dX6_rank_19 (by decide) ?_
        have h99 : 9 < r := Int32.not_le.mp c_16
        exact zj_iretF C hr hlocks dX6_rank_21 (by unfold aRk; rw [if_pos c_4, if_pos (Or.inr h99)]) (by rw [if_neg (by unfold okRk; simp [c_10, h99])]; rfl)
  · refine zj_iconst (pc := 7) (v := (-1)) C dX6_rank_7 (by decide) ?_
    exact zj_iretF C hr hlocks dX6_rank_8 (by unfold aRk; rw [c_4]; rfl) (by rw [if_neg (by unfold okRk; rw [c_4]; simp)]; rfl)
set_option maxRecDepth 100000 in
set_option maxHeartbeats 4000000 in
theorem m_X6_undo {l : Launch} {G : GG} {ad : Nat → Nat → Nat} {q : Nat → Nat → Nat} {P Pd Ps : PC} {kp : Bool} {HP : Nat → PC} {hn : Nat} {t : Nat → Nat} {tn : Nat} {T : T7} {W1 W2 : TC} {st : Bool} (hh : hn ≤ 4) : zX l G yX6_undo cX6_undo 1 (some .int) 4 90 0 0 [.ref (ad 0 0)] (cls G ad q P Pd Ps kp HP hn t tn T W1 W2 st) (zF (some (.int (if hn = 0 then -5 else nI (hn - 1)))) (if hn = 0 then cls G ad q P Pd Ps kp HP hn t tn T W1 W2 st else cls G ad q (HP (hn - 1)) Pd Ps kp HP (hn - 1) t tn T W1 W2 true)) := by
  refine zj_startF RX6 (by decide +kernel) rfl rfl rfl (bs := [[((ad 0 0), .inr (6, [.ref (ad 1 0), .ref (ad 2 0), .ref (ad 3 0), .int (bI kp), .ref (ad 4 0), .ref (ad 5 0), .ref (ad 6 0), .ref (ad 7 0), .int (bI st)]))], plan G (ad 1) P, plan G (ad 2) Pd, plan G (ad 3) Ps, hist G (ad 4) q HP hn, text G (ad 5 0) (ad 5 1) t tn T, totT G (ad 6) W1, totT G (ad 7) W2]) rfl (lo := [some (.ref (ad 0 0))]) rfl ?_
  intro p0 e0 s0 m0 args0 below0 meth0 c0 A0 C hr hlocks
  refine zj_aload_n (pc := 0) C dX6_undo_0 rfl ?_
  refine gf_X6_4 (pc := 1) C dX6_undo_1 0 rfl ?_
  refine zj_aload_n (pc := 4) C dX6_undo_4 rfl ?_
  refine gf_X6_0 (pc := 5) C dX6_undo_5 0 rfl ?_
  refine zj_callA (pc := 8) C kv_X6_138 (m_X0_moveLatestTo hh) dX6_undo_8 [4, 1] [0, 2, 3, 5, 6, 7] rfl rfl rfl rfl rfl rfl rfl rfl ⟨0, rfl⟩ rfl rfl (fun v w1 hq => ?_)
  obtain ⟨rfl, rfl⟩ := hq
  refine zj_eqp (bs' := [[((ad 0 0), .inr (6, [.ref (ad 1 0), .ref (ad 2 0), .ref (ad 3 0), .int (bI kp), .ref (ad 4 0), .ref (ad 5 0), .ref (ad 6 0), .ref (ad 7 0), .int (bI st)]))], plan G (ad 1) (if hn = 0 then P else HP (hn - 1)), plan G (ad 2) Pd, plan G (ad 3) Ps, hist G (ad 4) q HP (hn - 1), text G (ad 5 0) (ad 5 1) t tn T, totT G (ad 6) W1, totT G (ad 7) W2]) (zp_perm (bs := [[((ad 0 0), .inr (6, [.ref (ad 1 0), .ref (ad 2 0), .ref (ad 3 0), .int (bI kp), .ref (ad 4 0), .ref (ad 5 0), .ref (ad 6 0), .ref (ad 7 0), .int (bI st)]))], plan G (ad 1) (if hn = 0 then P else HP (hn - 1)), plan G (ad 2) Pd, plan G (ad 3) Ps, hist G (ad 4) q HP (hn - 1), text G (ad 5 0) (ad 5 1) t tn T, totT G (ad 6) W1, totT G (ad 7) W2]) (is := [4, 1]) (jr := [0, 2, 3, 5, 6, 7]) rfl).symm ?_
  refine zj_ifb_ne (pc := 11) 17 C dX6_undo_11 (by decide) (fun c_11 => ?_) (fun c_11 => ?_)
  · refine zj_aload_n (pc := 17) C dX6_undo_17 rfl ?_
    refine zj_iconst (pc := 18) (v := 1) C dX6_undo_18 (by decide) ?_
    refine pf_X6_8 (pc := 19) (x := true) C dX6_undo_19 0 rfl ?_
    refine zj_aload_n (pc := 22) C dX6_undo_22 rfl ?_
    refine gf_X6_4 (pc := 23) C dX6_undo_23 0 rfl ?_
    refine zj_callP1 (pc := 26) C kv_X6_142 (m_X0_size) dX6_undo_26 4 rfl rfl rfl rfl rfl rfl rfl ⟨0, rfl⟩ rfl rfl ?_
    have h9 : ¬ hn = 0 := by simpa using c_11
    exact zj_iretF C hr hlocks dX6_undo_29 (by rw [if_neg h9]) (by rw [if_neg h9, if_neg h9]; rfl)
  · refine zj_bipush (pc := 14) (v := (-5)) C dX6_undo_14 (by decide) ?_
    have h9 : hn = 0 := by simpa using c_11
    subst h9
    exact zj_iretF C hr hlocks dX6_undo_16 rfl rfl
theorem sw_6 (w : Int32) : w = 0 ∨ w = 1 ∨ w = 2 ∨ w = 3 ∨ w = 4 ∨ w = 5 ∨ (w.toInt < 0 ∨ 5 < w.toInt) := by
  by_cases h : w.toInt < 0 ∨ 5 < w.toInt
  · exact Or.inr (Or.inr (Or.inr (Or.inr (Or.inr (Or.inr h)))))
  · have h2 : w.toInt = 0 ∨ w.toInt = 1 ∨ w.toInt = 2 ∨ w.toInt = 3 ∨ w.toInt = 4 ∨ w.toInt = 5 := by omega
    rcases h2 with h2 | h2 | h2 | h2 | h2 | h2
    · exact Or.inl (Int32.toInt_inj.mp h2)
    · exact Or.inr (Or.inl (Int32.toInt_inj.mp h2))
    · exact Or.inr (Or.inr (Or.inl (Int32.toInt_inj.mp h2)))
    · exact Or.inr (Or.inr (Or.inr (Or.inl (Int32.toInt_inj.mp h2))))
    · exact Or.inr (Or.inr (Or.inr (Or.inr (Or.inl (Int32.toInt_inj.mp h2)))))
    · exact Or.inr (Or.inr (Or.inr (Or.inr (Or.inr (Or.inl (Int32.toInt_inj.mp h2))))))
theorem sw_2 (w : Int32) : w = 0 ∨ w = 1 ∨ w = 2 ∨ (w.toInt < 0 ∨ 2 < w.toInt) := by
  by_cases h : w.toInt < 0 ∨ 2 < w.toInt
  · exact Or.inr (Or.inr (Or.inr (h)))
  · have h2 : w.toInt = 0 ∨ w.toInt = 1 ∨ w.toInt = 2 := by omega
    rcases h2 with h2 | h2 | h2
    · exact Or.inl (Int32.toInt_inj.mp h2)
    · exact Or.inr (Or.inl (Int32.toInt_inj.mp h2))
    · exact Or.inr (Or.inr (Or.inl (Int32.toInt_inj.mp h2)))
theorem sw_9 (w : Int32) : w = 0 ∨ w = 1 ∨ w = 2 ∨ w = 3 ∨ w = 4 ∨ w = 5 ∨ w = 6 ∨ w = 7 ∨ w = 8 ∨ w = 9 ∨ (w.toInt < 0 ∨ 9 < w.toInt) := by
  by_cases h : w.toInt < 0 ∨ 9 < w.toInt
  · exact Or.inr (Or.inr (Or.inr (Or.inr (Or.inr (Or.inr (Or.inr (Or.inr (Or.inr (Or.inr (h))))))))))
  · have h2 : w.toInt = 0 ∨ w.toInt = 1 ∨ w.toInt = 2 ∨ w.toInt = 3 ∨ w.toInt = 4 ∨ w.toInt = 5 ∨ w.toInt = 6 ∨ w.toInt = 7 ∨ w.toInt = 8 ∨ w.toInt = 9 := by omega
    rcases h2 with h2 | h2 | h2 | h2 | h2 | h2 | h2 | h2 | h2 | h2
    · exact Or.inl (Int32.toInt_inj.mp h2)
    · exact Or.inr (Or.inl (Int32.toInt_inj.mp h2))
    · exact Or.inr (Or.inr (Or.inl (Int32.toInt_inj.mp h2)))
    · exact Or.inr (Or.inr (Or.inr (Or.inl (Int32.toInt_inj.mp h2))))
    · exact Or.inr (Or.inr (Or.inr (Or.inr (Or.inl (Int32.toInt_inj.mp h2)))))
    · exact Or.inr (Or.inr (Or.inr (Or.inr (Or.inr (Or.inl (Int32.toInt_inj.mp h2))))))
    · exact Or.inr (Or.inr (Or.inr (Or.inr (Or.inr (Or.inr (Or.inl (Int32.toInt_inj.mp h2)))))))
    · exact Or.inr (Or.inr (Or.inr (Or.inr (Or.inr (Or.inr (Or.inr (Or.inl (Int32.toInt_inj.mp h2))))))))
    · exact Or.inr (Or.inr (Or.inr (Or.inr (Or.inr (Or.inr (Or.inr (Or.inr (Or.inl (Int32.toInt_inj.mp h2)))))))))
    · exact Or.inr (Or.inr (Or.inr (Or.inr (Or.inr (Or.inr (Or.inr (Or.inr (Or.inr (Or.inl (Int32.toInt_inj.mp h2))))))))))
theorem sw_3 (w : Int32) : w = 0 ∨ w = 1 ∨ w = 2 ∨ (w.toInt < 0 ∨ 2 < w.toInt) := sw_2 w
theorem sw_out {w : Int32} {a b : Int} (h : w.toInt < a ∨ b < w.toInt) {k : Int32} (h1 : a ≤ k.toInt) (h2 : k.toInt ≤ b) : ¬ w = k := by
  intro e
  subst e
  omega
def aLO (g : Nat → Nat) (x w : Int32) : Int32 := if tHas (nI (kL g)) x then (if w < 0 ∨ 6 < w then -2 else if w = 5 then clkI g x.toNatClampNeg else if w = 6 then bI (told g x.toNatClampNeg) else nI (lnC g x.toNatClampNeg w.toNatClampNeg)) else -1

set_option maxRecDepth 100000 in
set_option maxHeartbeats 4000000 in
theorem m_X6_laneOf {l : Launch} {G : GG} {ad : Nat → Nat → Nat} {q : Nat → Nat → Nat} {P Pd Ps : PC} {kp : Bool} {HP : Nat → PC} {hn : Nat} {t : Nat → Nat} {tn : Nat} {T : T7} {W1 W2 : TC} {st : Bool} {g : Nat → Nat} {x w : Int32} (hP : PR g P) (hv : Vg g) : zX l G yX6_laneOf cX6_laneOf 3 (some .int) 4 89 0 0 [.ref (ad 0 0), .int x, .int w] (cls G ad q P Pd Ps kp HP hn t tn T W1 W2 st) (zF (some (.int (aLO g x w))) (cls G ad q P Pd Ps kp HP hn t tn T W1 W2 st)) := by
  refine zj_startF RX6 (by decide +kernel) rfl rfl rfl (bs := [[((ad 0 0), .inr (6, [.ref (ad 1 0), .ref (ad 2 0), .ref (ad 3 0), .int (bI kp), .ref (ad 4 0), .ref (ad 5 0), .ref (ad 6 0), .ref (ad 7 0), .int (bI st)]))], plan G (ad 1) P, plan G (ad 2) Pd, plan G (ad 3) Ps, hist G (ad 4) q HP hn, text G (ad 5 0) (ad 5 1) t tn T, totT G (ad 6) W1, totT G (ad 7) W2]) rfl (lo := [some (.ref (ad 0 0)), some (.int x), some (.int w)]) rfl ?_
  intro p0 e0 s0 m0 args0 below0 meth0 c0 A0 C hr hlocks
  refine zj_aload_n (pc := 0) C dX6_laneOf_0 rfl ?_
  refine gf_X6_0 (pc := 1) C dX6_laneOf_1 0 rfl ?_
  refine zj_iload_n (pc := 4) C dX6_laneOf_4 rfl ?_
  refine zj_callP1 (pc := 5) C kv_X6_71 (m_X1_hasLane hP) dX6_laneOf_5 1 rfl rfl rfl rfl rfl rfl rfl ⟨0, rfl⟩ rfl rfl ?_
  refine zj_ifb_ne (pc := 8) 13 C dX6_laneOf_8 (by decide) (fun c_8 => ?_) (fun c_8 => ?_)
  · refine zj_iload_n (pc := 13) C dX6_laneOf_13 rfl ?_
    refine zj_if_lt (pc := 14) 23 C dX6_laneOf_14 (by decide) (fun c_14 => ?_) (fun c_14 => ?_)
    · refine zj_bipush (pc := 23) (v := (-2)) C dX6_laneOf_23 (by decide) ?_
      exact zj_iretF C hr hlocks dX6_laneOf_25 (by unfold aLO; rw [if_pos c_8, if_pos (Or.inl c_14)]) rfl
    · refine zj_iload_n (pc := 17) C dX6_laneOf_17 rfl ?_
      refine zj_bipush (pc := 18) (v := 6) C dX6_laneOf_18 (by decide) ?_
      refine zj_icmp_le (pc := 20) 26 C dX6_laneOf_20 (by decide) (fun c_20 => ?_) (fun c_20 => ?_)
      · obtain ⟨i, hi, hxi⟩ := tHas_s (by have := hv.1; omega) c_8
        have hx9 : x.toNatClampNeg = i := by rw [hxi]; exact nI_clamp (by have := hv.1; omega)
        refine zj_loc (lo' := [some (.ref (ad 0 0)), some (.int (nI i)), some (.int w)]) (by rw [hxi]) ?_
        refine zj_iload_n (pc := 26) C dX6_laneOf_26 rfl ?_
        refine zj_iconst (pc := 27) (v := 5) C dX6_laneOf_27 (by decide) ?_
        refine zj_icmp_ne (pc := 28) 40 C dX6_laneOf_28 (by decide) (fun c_28 => ?_) (fun c_28 => ?_)
        · refine zj_iload_n (pc := 40) C dX6_laneOf_40 rfl ?_
          refine zj_bipush (pc := 41) (v := 6) C dX6_laneOf_41 (by decide) ?_
          refine zj_icmp_ne (pc := 43) 63 C dX6_laneOf_43 (by decide) (fun c_43 => ?_) (fun c_43 => ?_)
          · obtain ⟨wc, hwc0, hww⟩ := nI_of2 (M := 6) (n := 6) (by decide) c_14 c_20
            have hwc : wc < 5 := by
              have h1 : wc ≠ 5 := fun e => c_28 (by rw [hww, e]; rfl)
              have h2 : wc ≠ 6 := fun e => c_43 (by rw [hww, e]; rfl)
              omega
            have hw9 : w.toNatClampNeg = wc := by rw [hww]; exact nI_clamp (by omega)
            refine zj_loc (lo' := [some (.ref (ad 0 0)), some (.int (nI i)), some (.int (nI wc))]) (by rw [hww]) ?_
            refine zj_aload_n (pc := 63) C dX6_laneOf_63 rfl ?_
            refine gf_X6_0 (pc := 64) C dX6_laneOf_64 0 rfl ?_
            refine zj_iload_n (pc := 67) C dX6_laneOf_67 rfl ?_
            refine zj_iload_n (pc := 68) C dX6_laneOf_68 rfl ?_
            refine zj_callP1 (pc := 69) C kv_X6_152 (m_X1_laneCell hP hv hi hwc) dX6_laneOf_69 1 rfl rfl rfl rfl rfl rfl rfl ⟨0, rfl⟩ rfl rfl ?_
            have h99 : ¬ 6 < w := Int32.not_lt.mpr c_20
            have hor : ¬ (w < 0 ∨ 6 < w) := fun h => h.elim c_14 h99
            exact zj_iretF C hr hlocks dX6_laneOf_72 (by unfold aLO; rw [if_pos c_8, if_neg hor, if_neg c_28, if_neg c_43, hx9, hw9]) rfl
          · refine zj_aload_n (pc := 46) C dX6_laneOf_46 rfl ?_
            refine gf_X6_0 (pc := 47) C dX6_laneOf_47 0 rfl ?_
            refine zj_iload_n (pc := 50) C dX6_laneOf_50 rfl ?_
            refine zj_callP1 (pc := 51) C kv_X6_149 (m_X1_isTold hP hv hi) dX6_laneOf_51 1 rfl rfl rfl rfl rfl rfl rfl ⟨0, rfl⟩ rfl rfl ?_
            refine zm_ifb_eq_0 (pc := 54) C dX6_laneOf_54 dX6_laneOf_57 dX6_laneOf_58 dX6_laneOf_61 ?_
            have h99 : ¬ 6 < w := Int32.not_lt.mpr c_20
            have hor : ¬ (w < 0 ∨ 6 < w) := fun h => h.elim c_14 h99
            exact zj_iretF C hr hlocks dX6_laneOf_62 (by unfold aLO; rw [if_pos c_8, if_neg hor, if_neg c_28, if_pos c_43, hx9, Bool.not_not]) rfl
        · refine zj_aload_n (pc := 31) C dX6_laneOf_31 rfl ?_
          refine gf_X6_0 (pc := 32) C dX6_laneOf_32 0 rfl ?_
          refine zj_iload_n (pc := 35) C dX6_laneOf_35 rfl ?_
          refine zj_callP1 (pc := 36) C kv_X6_146 (m_X1_clerkOf hP hv hi) dX6_laneOf_36 1 rfl rfl rfl rfl rfl rfl rfl ⟨0, rfl⟩ rfl rfl ?_
          have h99 : ¬ 6 < w := Int32.not_lt.mpr c_20
          have hor : ¬ (w < 0 ∨ 6 < w) := fun h => h.elim c_14 h99
          exact zj_iretF C hr hlocks dX6_laneOf_39 (by unfold aLO; rw [if_pos c_8, if_neg hor, if_pos c_28, hx9]) rfl
      · refine zj_bipush (pc := 23) (v := (-2)) C dX6_laneOf_23 (by decide) ?_
        have h99 : 6 < w := Int32.not_le.mp c_20
        exact zj_iretF C hr hlocks dX6_laneOf_25 (by unfold aLO; rw [if_pos c_8, if_pos (Or.inr h99)]) rfl
  · refine zj_iconst (pc := 11) (v := (-1)) C dX6_laneOf_11 (by decide) ?_
    exact zj_iretF C hr hlocks dX6_laneOf_12 (by unfold aLO; rw [c_8]; rfl) rfl
def aAO (g : Nat → Nat) (W : TC) (x w : Int32) : Int32 := if tHas (nI (kA g)) x then (if w < 0 ∨ 3 < w then -2 else if w = 3 then nI (cntB (fun y => !(W.2.2.2.2.1 (y * 12 + x.toNatClampNeg) == 0)) 14) else nI (alC g x.toNatClampNeg w.toNatClampNeg)) else -1
def aCO (g : Nat → Nat) (W : TC) (x w : Int32) : Int32 := if isC x then (if w = 0 then nI (g x.toNatClampNeg) else if w = 1 then nI (W.2.1 x.toNatClampNeg) else if w = 2 then nI (gdN W.2.1 x.toNatClampNeg) else if w = 3 then nI (cntB (fun i => hasCk g i && ck g i == x.toNatClampNeg) (kL g)) else if w = 4 then nI (cntB (fun al => !(W.2.2.2.2.1 (x.toNatClampNeg * 12 + al) == 0)) W.2.2.2.2.2) else if w = 5 then nI (sumB (fun al => !(W.2.2.2.2.1 (x.toNatClampNeg * 12 + al) == 0)) (fun al => W.2.2.2.1 (x.toNatClampNeg * 12 + al)) W.2.2.2.2.2) else -2) else -1

set_option maxRecDepth 100000 in
set_option maxHeartbeats 4000000 in
theorem m_X6_alleyOf {l : Launch} {G : GG} {ad : Nat → Nat → Nat} {q : Nat → Nat → Nat} {P Pd Ps : PC} {kp : Bool} {HP : Nat → PC} {hn : Nat} {t : Nat → Nat} {tn : Nat} {T : T7} {W1 W2 : TC} {st : Bool} {g : Nat → Nat} {x w : Int32} (hP : PR g P) (hv : Vg g) (hW1 : TBT W1) : zX l G yX6_alleyOf cX6_alleyOf 3 (some .int) 7 163 0 0 [.ref (ad 0 0), .int x, .int w] (cls G ad q P Pd Ps kp HP hn t tn T W1 W2 st) (zF (some (.int (aAO g (wK g st W1) x w))) (if (tHas (nI (kA g)) x && decide (w = 3)) then cls G ad q P Pd Ps kp HP hn t tn T (wK g st W1) W2 false else cls G ad q P Pd Ps kp HP hn t tn T W1 W2 st)) := by
  refine zj_startF RX6 (by decide +kernel) rfl rfl rfl (bs := [[((ad 0 0), .inr (6, [.ref (ad 1 0), .ref (ad 2 0), .ref (ad 3 0), .int (bI kp), .ref (ad 4 0), .ref (ad 5 0), .ref (ad 6 0), .ref (ad 7 0), .int (bI st)]))], plan G (ad 1) P, plan G (ad 2) Pd, plan G (ad 3) Ps, hist G (ad 4) q HP hn, text G (ad 5 0) (ad 5 1) t tn T, totT G (ad 6) W1, totT G (ad 7) W2]) rfl (lo := [some (.ref (ad 0 0)), some (.int x), some (.int w)]) rfl ?_
  intro p0 e0 s0 m0 args0 below0 meth0 c0 A0 C hr hlocks
  refine zj_aload_n (pc := 0) C dX6_alleyOf_0 rfl ?_
  refine gf_X6_0 (pc := 1) C dX6_alleyOf_1 0 rfl ?_
  refine zj_iload_n (pc := 4) C dX6_alleyOf_4 rfl ?_
  refine zj_callP1 (pc := 5) C kv_X6_102 (m_X1_hasAlley hP) dX6_alleyOf_5 1 rfl rfl rfl rfl rfl rfl rfl ⟨0, rfl⟩ rfl rfl ?_
  refine zj_ifb_ne (pc := 8) 13 C dX6_alleyOf_8 (by decide) (fun c_8 => ?_) (fun c_8 => ?_)
  · refine zj_iload_n (pc := 13) C dX6_alleyOf_13 rfl ?_
    refine zj_if_lt (pc := 14) 22 C dX6_alleyOf_14 (by decide) (fun c_14 => ?_) (fun c_14 => ?_)
    · refine zj_bipush (pc := 22) (v := (-2)) C dX6_alleyOf_22 (by decide) ?_
      have hne : ¬ w = 3 := by intro e; subst e; exact absurd c_14 (by decide)
      exact zj_iretF C hr hlocks dX6_alleyOf_24 (by unfold aAO; rw [if_pos c_8, if_pos (Or.inl c_14)]) (by rw [if_neg (fun h => hne (of_decide_eq_true ((Bool.and_eq_true _ _ ▸ h).2)))]; rfl)
    · refine zj_iload_n (pc := 17) C dX6_alleyOf_17 rfl ?_
      refine zj_iconst (pc := 18) (v := 3) C dX6_alleyOf_18 (by decide) ?_
      refine zj_icmp_le (pc := 19) 25 C dX6_alleyOf_19 (by decide) (fun c_19 => ?_) (fun c_19 => ?_)
      · obtain ⟨i, hi, hxi⟩ := tHas_s (by have := hv.2.1; omega) c_8
        have hx9 : x.toNatClampNeg = i := by rw [hxi]; exact nI_clamp (by have := hv.2.1; omega)
        refine zj_loc (lo' := [some (.ref (ad 0 0)), some (.int (nI i)), some (.int w)]) (by rw [hxi]) ?_
        refine zj_iload_n (pc := 25) C dX6_alleyOf_25 rfl ?_
        refine zj_iconst (pc := 26) (v := 3) C dX6_alleyOf_26 (by decide) ?_
        refine zj_icmp_ne (pc := 27) 43 C dX6_alleyOf_27 (by decide) (fun c_27 => ?_) (fun c_27 => ?_)
        · obtain ⟨wc, hwc0, hww⟩ := nI_of2 (M := 3) (n := 3) (by decide) c_14 c_19
          have hwc : wc < 3 := by
            have h1 : wc ≠ 3 := fun e => c_27 (by rw [hww, e]; rfl)
            omega
          have hw9 : w.toNatClampNeg = wc := by rw [hww]; exact nI_clamp (by omega)
          refine zj_loc (lo' := [some (.ref (ad 0 0)), some (.int (nI i)), some (.int (nI wc))]) (by rw [hww]) ?_
          refine zj_aload_n (pc := 43) C dX6_alleyOf_43 rfl ?_
          refine gf_X6_0 (pc := 44) C dX6_alleyOf_44 0 rfl ?_
          refine zj_iload_n (pc := 47) C dX6_alleyOf_47 rfl ?_
          refine zj_iload_n (pc := 48) C dX6_alleyOf_48 rfl ?_
          refine zj_callP1 (pc := 49) C kv_X6_162 (m_X1_alleyCell hP hv hi hwc) dX6_alleyOf_49 1 rfl rfl rfl rfl rfl rfl rfl ⟨0, rfl⟩ rfl rfl ?_
          have h99 : ¬ 3 < w := Int32.not_lt.mpr c_19
          have hor : ¬ (w < 0 ∨ 3 < w) := fun h => h.elim c_14 h99
          exact zj_iretF C hr hlocks dX6_alleyOf_52 (by unfold aAO; rw [if_pos c_8, if_neg hor, if_neg c_27, hx9, hw9]) (by rw [if_neg (fun h => c_27 (of_decide_eq_true ((Bool.and_eq_true _ _ ▸ h).2)))]; rfl)
        · refine zj_aload_n (pc := 30) C dX6_alleyOf_30 rfl ?_
          refine zj_callA (pc := 31) C kv_X6_156 (m_X6_workOut hP hv hW1) dX6_alleyOf_31 [0, 1, 2, 3, 4, 5, 6, 7] [] rfl rfl rfl rfl rfl rfl rfl rfl ⟨0, rfl⟩ rfl rfl (fun v w1 hq => ?_)
          obtain ⟨rfl, rfl⟩ := hq
          refine zj_blk (bs' := [[((ad 0 0), .inr (6, [.ref (ad 1 0), .ref (ad 2 0), .ref (ad 3 0), .int (bI kp), .ref (ad 4 0), .ref (ad 5 0), .ref (ad 6 0), .ref (ad 7 0), .int (bI false)]))], plan G (ad 1) P, plan G (ad 2) Pd, plan G (ad 3) Ps, hist G (ad 4) q HP hn, text G (ad 5 0) (ad 5 1) t tn T, totT G (ad 6) (wK g st W1), totT G (ad 7) W2]) rfl ?_
          have hWK : TBT (wK g st W1) := wK_TBT hv hW1
          refine zj_aload_n (pc := 34) C dX6_alleyOf_34 rfl ?_
          refine gf_X6_6 (pc := 35) C dX6_alleyOf_35 0 rfl ?_
          refine zj_iload_n (pc := 38) C dX6_alleyOf_38 rfl ?_
          refine zj_callP1 (pc := 39) C kv_X6_159 (m_X4_crossingsWithTotal hWK.1 (by have := hv.2.1; omega)) dX6_alleyOf_39 6 rfl rfl rfl rfl rfl rfl rfl ⟨0, rfl⟩ rfl rfl ?_
          have h99 : ¬ 3 < w := Int32.not_lt.mpr c_19
          have hor : ¬ (w < 0 ∨ 3 < w) := fun h => h.elim c_14 h99
          exact zj_iretF C hr hlocks dX6_alleyOf_42 (by unfold aAO; rw [if_pos c_8, if_neg hor, if_pos c_27, hx9]) (by rw [if_pos (by rw [c_8]; simp [c_27])]; rfl)
      · refine zj_bipush (pc := 22) (v := (-2)) C dX6_alleyOf_22 (by decide) ?_
        have h99 : 3 < w := Int32.not_le.mp c_19
        have hne : ¬ w = 3 := by intro e; subst e; exact absurd h99 (by decide)
        exact zj_iretF C hr hlocks dX6_alleyOf_24 (by unfold aAO; rw [if_pos c_8, if_pos (Or.inr h99)]) (by rw [if_neg (fun h => hne (of_decide_eq_true ((Bool.and_eq_true _ _ ▸ h).2)))]; rfl)
  · refine zj_iconst (pc := 11) (v := (-1)) C dX6_alleyOf_11 (by decide) ?_
    exact zj_iretF C hr hlocks dX6_alleyOf_12 (by unfold aAO; rw [c_8]; rfl) (by rw [if_neg (by rw [c_8]; simp)]; rfl)
set_option maxRecDepth 100000 in
set_option maxHeartbeats 4000000 in
theorem m_X6_crossingOf {l : Launch} {G : GG} {ad : Nat → Nat → Nat} {q : Nat → Nat → Nat} {P Pd Ps : PC} {kp : Bool} {HP : Nat → PC} {hn : Nat} {t : Nat → Nat} {tn : Nat} {T : T7} {W1 W2 : TC} {st : Bool} {g : Nat → Nat} {x w : Int32} (hP : PR g P) (hv : Vg g) (hW1 : TBT W1) : zX l G yX6_crossingOf cX6_crossingOf 3 (some .int) 7 163 0 0 [.ref (ad 0 0), .int x, .int w] (cls G ad q P Pd Ps kp HP hn t tn T W1 W2 st) (zF (some (.int (aCO g (wK g st W1) x w))) (if isC x then cls G ad q P Pd Ps kp HP hn t tn T (wK g st W1) W2 false else cls G ad q P Pd Ps kp HP hn t tn T W1 W2 st)) := by
  refine zj_startF RX6 (by decide +kernel) rfl rfl rfl (bs := [[((ad 0 0), .inr (6, [.ref (ad 1 0), .ref (ad 2 0), .ref (ad 3 0), .int (bI kp), .ref (ad 4 0), .ref (ad 5 0), .ref (ad 6 0), .ref (ad 7 0), .int (bI st)]))], plan G (ad 1) P, plan G (ad 2) Pd, plan G (ad 3) Ps, hist G (ad 4) q HP hn, text G (ad 5 0) (ad 5 1) t tn T, totT G (ad 6) W1, totT G (ad 7) W2]) rfl (lo := [some (.ref (ad 0 0)), some (.int x), some (.int w)]) rfl ?_
  intro p0 e0 s0 m0 args0 below0 meth0 c0 A0 C hr hlocks
  refine zj_iload_n (pc := 0) C dX6_crossingOf_0 rfl ?_
  refine zj_callSF (pc := 1) C kv_X6_53 (m_X6_isCrossing) dX6_crossingOf_1 rfl rfl rfl rfl rfl rfl ?_
  refine zj_ifb_ne (pc := 4) 9 C dX6_crossingOf_4 (by decide) (fun c_4 => ?_) (fun c_4 => ?_)
  · obtain ⟨j, hj, hxj⟩ := isC_n c_4
    have hx9 : x.toNatClampNeg = j := by rw [hxj]; exact nI_clamp (by omega)
    refine zj_loc (lo' := [some (.ref (ad 0 0)), some (.int (nI j)), some (.int w)]) (by rw [hxj]) ?_
    refine zj_aload_n (pc := 9) C dX6_crossingOf_9 rfl ?_
    refine zj_callA (pc := 10) C kv_X6_156 (m_X6_workOut hP hv hW1) dX6_crossingOf_10 [0, 1, 2, 3, 4, 5, 6, 7] [] rfl rfl rfl rfl rfl rfl rfl rfl ⟨0, rfl⟩ rfl rfl (fun v w1 hq => ?_)
    obtain ⟨rfl, rfl⟩ := hq
    refine zj_blk (bs' := [[((ad 0 0), .inr (6, [.ref (ad 1 0), .ref (ad 2 0), .ref (ad 3 0), .int (bI kp), .ref (ad 4 0), .ref (ad 5 0), .ref (ad 6 0), .ref (ad 7 0), .int (bI false)]))], plan G (ad 1) P, plan G (ad 2) Pd, plan G (ad 3) Ps, hist G (ad 4) q HP hn, text G (ad 5 0) (ad 5 1) t tn T, totT G (ad 6) (wK g st W1), totT G (ad 7) W2]) rfl ?_
    have hWK : TBT (wK g st W1) := wK_TBT hv hW1
    refine zj_iload_n (pc := 13) C dX6_crossingOf_13 rfl ?_
    rcases (show w = 0 ∨ w = 1 ∨ w = 2 ∨ w = 3 ∨ w = 4 ∨ w = 5 ∨ (w.toInt < 0 ∨ 5 < w.toInt) from sw_6 w) with hw9 | hw9 | hw9 | hw9 | hw9 | hw9 | hw9
    · refine zj_top (x' := 0) hw9 ?_
      refine zj_tableIn (pc := 14) 52 C dX6_crossingOf_14 (by decide) (by decide) rfl (by decide) ?_
      refine zj_aload_n (pc := 52) C dX6_crossingOf_52 rfl ?_
      refine gf_X6_0 (pc := 53) C dX6_crossingOf_53 0 rfl ?_
      refine zj_iload_n (pc := 56) C dX6_crossingOf_56 rfl ?_
      refine zj_callP1 (pc := 57) C kv_X6_89 (m_X1_rankOf hP hj) dX6_crossingOf_57 1 rfl rfl rfl rfl rfl rfl rfl ⟨0, rfl⟩ rfl rfl ?_
      exact zj_iretF C hr hlocks dX6_crossingOf_60 (by unfold aCO; rw [if_pos c_4, hx9]; simp [hw9]) (by rw [if_pos c_4]; rfl)
    · refine zj_top (x' := 1) hw9 ?_
      refine zj_tableIn (pc := 14) 61 C dX6_crossingOf_14 (by decide) (by decide) rfl (by decide) ?_
      refine zj_aload_n (pc := 61) C dX6_crossingOf_61 rfl ?_
      refine gf_X6_6 (pc := 62) C dX6_crossingOf_62 0 rfl ?_
      refine zj_iload_n (pc := 65) C dX6_crossingOf_65 rfl ?_
      refine zj_callP1 (pc := 66) C kv_X6_165 (m_X4_districtsOf hj) dX6_crossingOf_66 6 rfl rfl rfl rfl rfl rfl rfl ⟨0, rfl⟩ rfl rfl ?_
      exact zj_iretF C hr hlocks dX6_crossingOf_69 (by unfold aCO; rw [if_pos c_4, hx9]; simp [hw9]) (by rw [if_pos c_4]; rfl)
    · refine zj_top (x' := 2) hw9 ?_
      refine zj_tableIn (pc := 14) 70 C dX6_crossingOf_14 (by decide) (by decide) rfl (by decide) ?_
      refine zj_aload_n (pc := 70) C dX6_crossingOf_70 rfl ?_
      refine gf_X6_6 (pc := 71) C dX6_crossingOf_71 0 rfl ?_
      refine zj_iload_n (pc := 74) C dX6_crossingOf_74 rfl ?_
      refine zj_callP1 (pc := 75) C kv_X6_168 (m_X4_gateDistrictsOf hj (hWK.1.2.1 _ hj)) dX6_crossingOf_75 6 rfl rfl rfl rfl rfl rfl rfl ⟨0, rfl⟩ rfl rfl ?_
      exact zj_iretF C hr hlocks dX6_crossingOf_78 (by unfold aCO; rw [if_pos c_4, hx9]; simp [hw9]) (by rw [if_pos c_4]; rfl)
    · refine zj_top (x' := 3) hw9 ?_
      refine zj_tableIn (pc := 14) 79 C dX6_crossingOf_14 (by decide) (by decide) rfl (by decide) ?_
      refine zj_aload_n (pc := 79) C dX6_crossingOf_79 rfl ?_
      refine gf_X6_0 (pc := 80) C dX6_crossingOf_80 0 rfl ?_
      refine zj_iload_n (pc := 83) C dX6_crossingOf_83 rfl ?_
      refine zj_callP1 (pc := 84) C kv_X6_171 (m_X1_lanesOfClerk hP hv hj) dX6_crossingOf_84 1 rfl rfl rfl rfl rfl rfl rfl ⟨0, rfl⟩ rfl rfl ?_
      exact zj_iretF C hr hlocks dX6_crossingOf_87 (by unfold aCO; rw [if_pos c_4, hx9]; simp [hw9]) (by rw [if_pos c_4]; rfl)
    · refine zj_top (x' := 4) hw9 ?_
      refine zj_tableIn (pc := 14) 88 C dX6_crossingOf_14 (by decide) (by decide) rfl (by decide) ?_
      refine zj_aload_n (pc := 88) C dX6_crossingOf_88 rfl ?_
      refine gf_X6_6 (pc := 89) C dX6_crossingOf_89 0 rfl ?_
      refine zj_iload_n (pc := 92) C dX6_crossingOf_92 rfl ?_
      refine zj_callP1 (pc := 93) C kv_X6_174 (m_X4_alleysWithTotal hWK.1 hj hWK.2) dX6_crossingOf_93 6 rfl rfl rfl rfl rfl rfl rfl ⟨0, rfl⟩ rfl rfl ?_
      exact zj_iretF C hr hlocks dX6_crossingOf_96 (by unfold aCO; rw [if_pos c_4, hx9]; simp [hw9]) (by rw [if_pos c_4]; rfl)
    · refine zj_top (x' := 5) hw9 ?_
      refine zj_tableIn (pc := 14) 97 C dX6_crossingOf_14 (by decide) (by decide) rfl (by decide) ?_
      refine zj_aload_n (pc := 97) C dX6_crossingOf_97 rfl ?_
      refine gf_X6_6 (pc := 98) C dX6_crossingOf_98 0 rfl ?_
      refine zj_iload_n (pc := 101) C dX6_crossingOf_101 rfl ?_
      refine zj_callP1 (pc := 102) C kv_X6_177 (m_X4_sumOfTotals hWK.1 hj hWK.2) dX6_crossingOf_102 6 rfl rfl rfl rfl rfl rfl rfl ⟨0, rfl⟩ rfl rfl ?_
      exact zj_iretF C hr hlocks dX6_crossingOf_105 (by unfold aCO; rw [if_pos c_4, hx9]; simp [hw9]) (by rw [if_pos c_4]; rfl)
    · refine zj_tableOut (pc := 14) 106 C dX6_crossingOf_14 hw9 (by decide) ?_
      refine zj_bipush (pc := 106) (v := (-2)) C dX6_crossingOf_106 (by decide) ?_
      exact zj_iretF C hr hlocks dX6_crossingOf_108 (by unfold aCO; rw [if_pos c_4, if_neg (sw_out hw9 (by decide) (by decide)), if_neg (sw_out hw9 (by decide) (by decide)), if_neg (sw_out hw9 (by decide) (by decide)), if_neg (sw_out hw9 (by decide) (by decide)), if_neg (sw_out hw9 (by decide) (by decide)), if_neg (sw_out hw9 (by decide) (by decide))]) (by rw [if_pos c_4]; rfl)
  · refine zj_iconst (pc := 7) (v := (-1)) C dX6_crossingOf_7 (by decide) ?_
    exact zj_iretF C hr hlocks dX6_crossingOf_8 (by unfold aCO; rw [c_4]; rfl) (by rw [if_neg (by rw [c_4]; simp)]; rfl)
