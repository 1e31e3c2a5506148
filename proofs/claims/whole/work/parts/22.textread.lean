set_option maxRecDepth 100000 in
set_option maxHeartbeats 4000000 in
theorem m_X3_size {l : Launch} {G : GG} {a b n : Nat} {t : Nat → Nat} {s : Nat × Bool} {rl : Bool} {o o2 ln d : Nat} : zX l G yX3_size cX3_size 1 (some .int) 0 0 0 0 [.ref a] (text G a b t n (s, (rl, o, o2, ln, d))) (zF (some (.int (nI n))) (text G a b t n (s, (rl, o, o2, ln, d)))) := by
  refine zj_startF RX3 (by decide +kernel) rfl rfl rfl (bs := [[(a, .inr (3, [.ref b, .int (nI n), .int (nI s.1), .int (bI s.2), .int (bI rl), .int (nI o), .int (nI o2), .int (nI ln), .int (nI d)]))], [(b, .inl (G.2 1, 60, .inl (fun k => nI (t k))))]]) rfl (lo := [some (.ref a)]) rfl ?_
  intro p0 e0 s0 m0 args0 below0 meth0 c0 A0 C hr hlocks
  refine zj_aload_n (pc := 0) C dX3_size_0 rfl ?_
  refine gf_X3_1 (pc := 1) C dX3_size_1 0 rfl ?_
  refine zj_iretF C hr hlocks dX3_size_4 ?_ rfl
  exact rfl
set_option maxRecDepth 100000 in
set_option maxHeartbeats 4000000 in
theorem m_X3_isLane {l : Launch} {G : GG} {a b n : Nat} {t : Nat → Nat} {s : Nat × Bool} {rl : Bool} {o o2 ln d : Nat} : zX l G yX3_isLane cX3_isLane 1 (some .boolean) 0 0 0 0 [.ref a] (text G a b t n (s, (rl, o, o2, ln, d))) (zF (some (.int (bI (rl)))) (text G a b t n (s, (rl, o, o2, ln, d)))) := by
  refine zj_startF RX3 (by decide +kernel) rfl rfl rfl (bs := [[(a, .inr (3, [.ref b, .int (nI n), .int (nI s.1), .int (bI s.2), .int (bI rl), .int (nI o), .int (nI o2), .int (nI ln), .int (nI d)]))], [(b, .inl (G.2 1, 60, .inl (fun k => nI (t k))))]]) rfl (lo := [some (.ref a)]) rfl ?_
  intro p0 e0 s0 m0 args0 below0 meth0 c0 A0 C hr hlocks
  refine zj_aload_n (pc := 0) C dX3_isLane_0 rfl ?_
  refine gf_X3_4 (pc := 1) C dX3_isLane_1 0 rfl ?_
  refine zj_zretF C hr hlocks dX3_isLane_4 ?_ rfl
  exact rfl
set_option maxRecDepth 100000 in
set_option maxHeartbeats 4000000 in
theorem m_X3_one {l : Launch} {G : GG} {a b n : Nat} {t : Nat → Nat} {s : Nat × Bool} {rl : Bool} {o o2 ln d : Nat} : zX l G yX3_one cX3_one 1 (some .int) 0 0 0 0 [.ref a] (text G a b t n (s, (rl, o, o2, ln, d))) (zF (some (.int (nI o))) (text G a b t n (s, (rl, o, o2, ln, d)))) := by
  refine zj_startF RX3 (by decide +kernel) rfl rfl rfl (bs := [[(a, .inr (3, [.ref b, .int (nI n), .int (nI s.1), .int (bI s.2), .int (bI rl), .int (nI o), .int (nI o2), .int (nI ln), .int (nI d)]))], [(b, .inl (G.2 1, 60, .inl (fun k => nI (t k))))]]) rfl (lo := [some (.ref a)]) rfl ?_
  intro p0 e0 s0 m0 args0 below0 meth0 c0 A0 C hr hlocks
  refine zj_aload_n (pc := 0) C dX3_one_0 rfl ?_
  refine gf_X3_5 (pc := 1) C dX3_one_1 0 rfl ?_
  refine zj_iretF C hr hlocks dX3_one_4 ?_ rfl
  exact rfl
set_option maxRecDepth 100000 in
set_option maxHeartbeats 4000000 in
theorem m_X3_other {l : Launch} {G : GG} {a b n : Nat} {t : Nat → Nat} {s : Nat × Bool} {rl : Bool} {o o2 ln d : Nat} : zX l G yX3_other cX3_other 1 (some .int) 0 0 0 0 [.ref a] (text G a b t n (s, (rl, o, o2, ln, d))) (zF (some (.int (nI o2))) (text G a b t n (s, (rl, o, o2, ln, d)))) := by
  refine zj_startF RX3 (by decide +kernel) rfl rfl rfl (bs := [[(a, .inr (3, [.ref b, .int (nI n), .int (nI s.1), .int (bI s.2), .int (bI rl), .int (nI o), .int (nI o2), .int (nI ln), .int (nI d)]))], [(b, .inl (G.2 1, 60, .inl (fun k => nI (t k))))]]) rfl (lo := [some (.ref a)]) rfl ?_
  intro p0 e0 s0 m0 args0 below0 meth0 c0 A0 C hr hlocks
  refine zj_aload_n (pc := 0) C dX3_other_0 rfl ?_
  refine gf_X3_6 (pc := 1) C dX3_other_1 0 rfl ?_
  refine zj_iretF C hr hlocks dX3_other_4 ?_ rfl
  exact rfl
set_option maxRecDepth 100000 in
set_option maxHeartbeats 4000000 in
theorem m_X3_length {l : Launch} {G : GG} {a b n : Nat} {t : Nat → Nat} {s : Nat × Bool} {rl : Bool} {o o2 ln d : Nat} : zX l G yX3_length cX3_length 1 (some .int) 0 0 0 0 [.ref a] (text G a b t n (s, (rl, o, o2, ln, d))) (zF (some (.int (nI ln))) (text G a b t n (s, (rl, o, o2, ln, d)))) := by
  refine zj_startF RX3 (by decide +kernel) rfl rfl rfl (bs := [[(a, .inr (3, [.ref b, .int (nI n), .int (nI s.1), .int (bI s.2), .int (bI rl), .int (nI o), .int (nI o2), .int (nI ln), .int (nI d)]))], [(b, .inl (G.2 1, 60, .inl (fun k => nI (t k))))]]) rfl (lo := [some (.ref a)]) rfl ?_
  intro p0 e0 s0 m0 args0 below0 meth0 c0 A0 C hr hlocks
  refine zj_aload_n (pc := 0) C dX3_length_0 rfl ?_
  refine gf_X3_7 (pc := 1) C dX3_length_1 0 rfl ?_
  refine zj_iretF C hr hlocks dX3_length_4 ?_ rfl
  exact rfl
set_option maxRecDepth 100000 in
set_option maxHeartbeats 4000000 in
theorem m_X3_district {l : Launch} {G : GG} {a b n : Nat} {t : Nat → Nat} {s : Nat × Bool} {rl : Bool} {o o2 ln d : Nat} : zX l G yX3_district cX3_district 1 (some .int) 0 0 0 0 [.ref a] (text G a b t n (s, (rl, o, o2, ln, d))) (zF (some (.int (nI d))) (text G a b t n (s, (rl, o, o2, ln, d)))) := by
  refine zj_startF RX3 (by decide +kernel) rfl rfl rfl (bs := [[(a, .inr (3, [.ref b, .int (nI n), .int (nI s.1), .int (bI s.2), .int (bI rl), .int (nI o), .int (nI o2), .int (nI ln), .int (nI d)]))], [(b, .inl (G.2 1, 60, .inl (fun k => nI (t k))))]]) rfl (lo := [some (.ref a)]) rfl ?_
  intro p0 e0 s0 m0 args0 below0 meth0 c0 A0 C hr hlocks
  refine zj_aload_n (pc := 0) C dX3_district_0 rfl ?_
  refine gf_X3_8 (pc := 1) C dX3_district_1 0 rfl ?_
  refine zj_iretF C hr hlocks dX3_district_4 ?_ rfl
  exact rfl
set_option maxRecDepth 100000 in
set_option maxHeartbeats 4000000 in
theorem m_X3_empty {l : Launch} {G : GG} {a b n : Nat} {t : Nat → Nat} {s : Nat × Bool} {rl : Bool} {o o2 ln d : Nat} : zX l G yX3_empty cX3_empty 1 none 0 0 0 0 [.ref a] (text G a b t n (s, (rl, o, o2, ln, d))) (zF none (text G a b t 0 (s, (rl, o, o2, ln, d)))) := by
  refine zj_startF RX3 (by decide +kernel) rfl rfl rfl (bs := [[(a, .inr (3, [.ref b, .int (nI n), .int (nI s.1), .int (bI s.2), .int (bI rl), .int (nI o), .int (nI o2), .int (nI ln), .int (nI d)]))], [(b, .inl (G.2 1, 60, .inl (fun k => nI (t k))))]]) rfl (lo := [some (.ref a)]) rfl ?_
  intro p0 e0 s0 m0 args0 below0 meth0 c0 A0 C hr hlocks
  refine zj_aload_n (pc := 0) C dX3_empty_0 rfl ?_
  refine zj_iconst (pc := 1) (v := 0) C dX3_empty_1 (by decide) ?_
  refine pf_X3_1 (pc := 2) C dX3_empty_2 0 rfl ?_
  refine zj_vretF C hr hlocks dX3_empty_5 ?_
  exact rfl
set_option maxRecDepth 100000 in
set_option maxHeartbeats 4000000 in
theorem m_X3_start {l : Launch} {G : GG} {a b n : Nat} {t : Nat → Nat} {s : Nat × Bool} {rl : Bool} {o o2 ln d : Nat} : zX l G yX3_start cX3_start 1 none 0 0 0 0 [.ref a] (text G a b t n (s, (rl, o, o2, ln, d))) (zF none (text G a b t n ((0, false), (rl, o, o2, ln, d)))) := by
  refine zj_startF RX3 (by decide +kernel) rfl rfl rfl (bs := [[(a, .inr (3, [.ref b, .int (nI n), .int (nI s.1), .int (bI s.2), .int (bI rl), .int (nI o), .int (nI o2), .int (nI ln), .int (nI d)]))], [(b, .inl (G.2 1, 60, .inl (fun k => nI (t k))))]]) rfl (lo := [some (.ref a)]) rfl ?_
  intro p0 e0 s0 m0 args0 below0 meth0 c0 A0 C hr hlocks
  refine zj_aload_n (pc := 0) C dX3_start_0 rfl ?_
  refine zj_iconst (pc := 1) (v := 0) C dX3_start_1 (by decide) ?_
  refine pf_X3_2 (pc := 2) C dX3_start_2 0 rfl ?_
  refine zj_aload_n (pc := 5) C dX3_start_5 rfl ?_
  refine zj_iconst (pc := 6) (v := 0) C dX3_start_6 (by decide) ?_
  refine pf_X3_3 (pc := 7) (x := false) C dX3_start_7 0 rfl ?_
  refine zj_vretF C hr hlocks dX3_start_10 ?_
  exact rfl
set_option maxRecDepth 100000 in
set_option maxHeartbeats 4000000 in
theorem m_X3_hasMore {l : Launch} {G : GG} {a b n : Nat} {t : Nat → Nat} {s : Nat × Bool} {rl : Bool} {o o2 ln d : Nat} (hn : n ≤ 60) (hs : s.1 ≤ 60) : zX l G yX3_hasMore cX3_hasMore 1 (some .boolean) 0 0 0 0 [.ref a] (text G a b t n (s, (rl, o, o2, ln, d))) (zF (some (.int (bI (decide (s.1 < n))))) (text G a b t n (s, (rl, o, o2, ln, d)))) := by
  refine zj_startF RX3 (by decide +kernel) rfl rfl rfl (bs := [[(a, .inr (3, [.ref b, .int (nI n), .int (nI s.1), .int (bI s.2), .int (bI rl), .int (nI o), .int (nI o2), .int (nI ln), .int (nI d)]))], [(b, .inl (G.2 1, 60, .inl (fun k => nI (t k))))]]) rfl (lo := [some (.ref a)]) rfl ?_
  intro p0 e0 s0 m0 args0 below0 meth0 c0 A0 C hr hlocks
  refine zj_aload_n (pc := 0) C dX3_hasMore_0 rfl ?_
  refine gf_X3_2 (pc := 1) C dX3_hasMore_1 0 rfl ?_
  refine zj_aload_n (pc := 4) C dX3_hasMore_4 rfl ?_
  refine gf_X3_1 (pc := 5) C dX3_hasMore_5 0 rfl ?_
  refine zm_icmp_ge_0 (pc := 8) C dX3_hasMore_8 dX3_hasMore_11 dX3_hasMore_12 dX3_hasMore_15 ?_
  refine zj_zretF C hr hlocks dX3_hasMore_16 ?_ rfl
  rw [show decide (nI n ≤ nI s.1) = decide (n ≤ s.1) from decide_eq_decide.mpr (nI_leI (by omega) (by omega))]
  by_cases h : s.1 < n
  · simp [h, Nat.not_le.mpr h]
  · simp [h, Nat.not_lt.mp h]
set_option maxRecDepth 100000 in
set_option maxHeartbeats 4000000 in
theorem m_X3_signAt {l : Launch} {G : GG} {a b n : Nat} {t : Nat → Nat} {s : Nat × Bool} {rl : Bool} {o o2 ln d : Nat} {i : Nat} (hn : n ≤ 60) (hi : i ≤ 100) : zX l G yX3_signAt cX3_signAt 2 (some .int) 0 0 0 0 [.ref a, .int (nI i)] (text G a b t n (s, (rl, o, o2, ln, d))) (zF (some (.int (sgI t n i))) (text G a b t n (s, (rl, o, o2, ln, d)))) := by
  refine zj_startF RX3 (by decide +kernel) rfl rfl rfl (bs := [[(a, .inr (3, [.ref b, .int (nI n), .int (nI s.1), .int (bI s.2), .int (bI rl), .int (nI o), .int (nI o2), .int (nI ln), .int (nI d)]))], [(b, .inl (G.2 1, 60, .inl (fun k => nI (t k))))]]) rfl (lo := [some (.ref a), some (.int (nI i))]) rfl ?_
  intro p0 e0 s0 m0 args0 below0 meth0 c0 A0 C hr hlocks
  refine zj_iload_n (pc := 0) C dX3_signAt_0 rfl ?_
  refine zj_if_lt (pc := 1) 21 C dX3_signAt_1 (by decide) (fun c_1 => absurd c_1 (nI_pos (by omega))) (fun c_1 => ?_)
  refine zj_iload_n (pc := 4) C dX3_signAt_4 rfl ?_
  refine zj_aload_n (pc := 5) C dX3_signAt_5 rfl ?_
  refine gf_X3_1 (pc := 6) C dX3_signAt_6 0 rfl ?_
  refine zj_icmp_ge (pc := 9) 21 C dX3_signAt_9 (by decide) (fun c_9 => ?_) (fun c_9 => ?_)
  · have hge : n ≤ i := zle c_9 (by omega)
    refine zj_bipush (pc := 21) (v := (-5)) C dX3_signAt_21 (by decide) ?_
    refine zj_iretF C hr hlocks dX3_signAt_23 ?_ rfl
    rw [sgI, if_neg (by omega)]
  · have hlt : i < n := zlt c_9 (by omega)
    refine zj_iload_n (pc := 12) C dX3_signAt_12 rfl ?_
    refine zj_aload_n (pc := 13) C dX3_signAt_13 rfl ?_
    refine gf_X3_0 (pc := 14) C dX3_signAt_14 0 rfl ?_
    refine zj_alen (pc := 17) (t0 := 1) C dX3_signAt_17 1 (by decide) rfl ?_
    refine zj_icmp_lt (pc := 18) 24 C dX3_signAt_18 (by decide) (fun c_18 => ?_) (fun c_18 => absurd (nI_lt (show i < 60 by omega) (by decide)) c_18)
    refine zj_aload_n (pc := 24) C dX3_signAt_24 rfl ?_
    refine gf_X3_0 (pc := 25) C dX3_signAt_25 0 rfl ?_
    refine zj_iload_n (pc := 28) C dX3_signAt_28 rfl ?_
    refine zj_cald (pc := 29) (i) C dX3_signAt_29 1 rfl rfl (by omega) (by decide) ?_
    refine zj_iretF C hr hlocks dX3_signAt_30 ?_ rfl
    rw [sgI, if_pos hlt]
set_option maxRecDepth 100000 in
set_option maxHeartbeats 4000000 in
theorem m_X3_digitAt {l : Launch} {G : GG} {a b n : Nat} {t : Nat → Nat} {s : Nat × Bool} {rl : Bool} {o o2 ln d : Nat} {i : Nat} (hn : n ≤ 60) (hc : ∀ k, k < n → t k < 65536) (hi0 : i ≤ 100) : zX l G yX3_digitAt cX3_digitAt 3 (some .int) 1 21 0 0 [.ref a, .int (nI i)] (text G a b t n (s, (rl, o, o2, ln, d))) (zF (some (.int (optI (dg t n i)))) (text G a b t n (s, (rl, o, o2, ln, d)))) := by
  refine zj_startF RX3 (by decide +kernel) rfl rfl rfl (bs := [[(a, .inr (3, [.ref b, .int (nI n), .int (nI s.1), .int (bI s.2), .int (bI rl), .int (nI o), .int (nI o2), .int (nI ln), .int (nI d)]))], [(b, .inl (G.2 1, 60, .inl (fun k => nI (t k))))]]) rfl (lo := [some (.ref a), some (.int (nI i)), none]) rfl ?_
  intro p0 e0 s0 m0 args0 below0 meth0 c0 A0 C hr hlocks
  refine zj_aload_n (pc := 0) C dX3_digitAt_0 rfl ?_
  refine zj_iload_n (pc := 1) C dX3_digitAt_1 rfl ?_
  refine zj_callPA (pc := 2) C kv_X3_51 (m_X3_signAt hn hi0) dX3_digitAt_2 [0, 1] [] rfl rfl rfl rfl rfl rfl rfl rfl ⟨0, rfl⟩ rfl rfl ?_
  refine zj_top (x' := sgI t n i) rfl ?_
  refine zj_istore_n (pc := 5) C dX3_digitAt_5 (Nat.le_of_ble_eq_true rfl) ?_
  refine zj_iload_n (pc := 6) C dX3_digitAt_6 rfl ?_
  refine zj_bipush (pc := 7) (v := 48) C dX3_digitAt_7 (by decide) ?_
  refine zj_icmp_lt (pc := 9) 25 C dX3_digitAt_9 (by decide) (fun c_9 => ?_) (fun c_9 => ?_)
  · refine zj_bipush (pc := 25) (v := (-5)) C dX3_digitAt_25 (by decide) ?_
    refine zj_iretF C hr hlocks dX3_digitAt_27 ?_ rfl
    unfold dg
    by_cases hi : i < n
    · rw [sgI, if_pos hi, show (48 : Int32) = nI 48 from rfl, nI_ltI (by have := hc i hi; omega) (by have := hc i hi; omega)] at c_9
      rw [if_neg (by omega)]
      rfl
    · rw [if_neg (by omega)]
      rfl
  · refine zj_iload_n (pc := 12) C dX3_digitAt_12 rfl ?_
    refine zj_bipush (pc := 13) (v := 57) C dX3_digitAt_13 (by decide) ?_
    refine zj_icmp_gt (pc := 15) 25 C dX3_digitAt_15 (by decide) (fun c_15 => ?_) (fun c_15 => ?_)
    · refine zj_bipush (pc := 25) (v := (-5)) C dX3_digitAt_25 (by decide) ?_
      refine zj_iretF C hr hlocks dX3_digitAt_27 ?_ rfl
      unfold dg
      by_cases hi : i < n
      · rw [sgI, if_pos hi, show (57 : Int32) = nI 57 from rfl, nI_ltI (by have := hc i hi; omega) (by have := hc i hi; omega)] at c_15
        rw [if_neg (by omega)]
        rfl
      · rw [if_neg (by omega)]
        rfl
    · refine zj_iload_n (pc := 18) C dX3_digitAt_18 rfl ?_
      refine zj_bipush (pc := 19) (v := 48) C dX3_digitAt_19 (by decide) ?_
      refine zj_isub (pc := 21) C dX3_digitAt_21 ?_
      refine zj_goto (pc := 22) (tgt := 27) C dX3_digitAt_22 (by decide) ?_
      refine zj_iretF C hr hlocks dX3_digitAt_27 ?_ rfl
      unfold dg
      by_cases hi : i < n
      · rw [sgI, if_pos hi, show (57 : Int32) = nI 57 from rfl, nI_ltI (by have := hc i hi; omega) (by have := hc i hi; omega)] at c_15
        rw [sgI, if_pos hi, show (48 : Int32) = nI 48 from rfl, nI_ltI (by have := hc i hi; omega) (by have := hc i hi; omega)] at c_9
        rw [if_pos (by omega), sgI, if_pos hi]
        exact pk_sub (b := 48) (by omega)
      · rw [sgI, if_neg hi] at c_9
        exact absurd (by decide) c_9
set_option maxRecDepth 100000 in
set_option maxHeartbeats 4000000 in
theorem m_X3_readSign {l : Launch} {G : GG} {a b n : Nat} {t : Nat → Nat} {s : Nat × Bool} {rl : Bool} {o o2 ln d : Nat} {cc : Nat} (hn : n ≤ 60) (hc : ∀ k, k < n → t k < 65536) (hs : s.1 ≤ 60) (hcc : cc < 65536) : zX l G yX3_readSign cX3_readSign 2 none 1 21 0 0 [.ref a, .int (nI cc)] (text G a b t n (s, (rl, o, o2, ln, d))) (zF none (text G a b t n (rdS t n cc s, (rl, o, o2, ln, d)))) := by
  refine zj_startF RX3 (by decide +kernel) rfl rfl rfl (bs := [[(a, .inr (3, [.ref b, .int (nI n), .int (nI s.1), .int (bI s.2), .int (bI rl), .int (nI o), .int (nI o2), .int (nI ln), .int (nI d)]))], [(b, .inl (G.2 1, 60, .inl (fun k => nI (t k))))]]) rfl (lo := [some (.ref a), some (.int (nI cc))]) rfl ?_
  intro p0 e0 s0 m0 args0 below0 meth0 c0 A0 C hr hlocks
  refine zj_aload_n (pc := 0) C dX3_readSign_0 rfl ?_
  refine gf_X3_3 (pc := 1) C dX3_readSign_1 0 rfl ?_
  refine zj_ifb_ne (pc := 4) 32 C dX3_readSign_4 (by decide) (fun c_4 => ?_) (fun c_4 => ?_)
  · refine zj_aload_n (pc := 32) C dX3_readSign_32 rfl ?_
    refine zj_iconst (pc := 33) (v := 1) C dX3_readSign_33 (by decide) ?_
    refine pf_X3_3 (pc := 34) (x := true) C dX3_readSign_34 0 rfl ?_
    refine zj_vretF C hr hlocks dX3_readSign_37 ?_
    have hE9 : rdS t n cc s = (s.1, true) := if_neg (by rw [c_4]; simp)
    rw [hE9]
    exact rfl
  · refine zj_aload_n (pc := 7) C dX3_readSign_7 rfl ?_
    refine zj_aload_n (pc := 8) C dX3_readSign_8 rfl ?_
    refine gf_X3_2 (pc := 9) C dX3_readSign_9 0 rfl ?_
    refine zj_callPA (pc := 12) C kv_X3_51 (m_X3_signAt hn (by omega)) dX3_readSign_12 [0, 1] [] rfl rfl rfl rfl rfl rfl rfl rfl ⟨0, rfl⟩ rfl rfl ?_
    refine zj_top (x' := sgI t n s.1) rfl ?_
    refine zj_iload_n (pc := 15) C dX3_readSign_15 rfl ?_
    refine zj_icmp_ne (pc := 16) 32 C dX3_readSign_16 (by decide) (fun c_16 => ?_) (fun c_16 => ?_)
    · refine zj_aload_n (pc := 32) C dX3_readSign_32 rfl ?_
      refine zj_iconst (pc := 33) (v := 1) C dX3_readSign_33 (by decide) ?_
      refine pf_X3_3 (pc := 34) (x := true) C dX3_readSign_34 0 rfl ?_
      refine zj_vretF C hr hlocks dX3_readSign_37 ?_
      have hE9 : rdS t n cc s = (s.1, true) := by
        unfold rdS
        refine if_neg ?_
        rintro ⟨-, h2, h3⟩
        refine c_16 ?_
        rw [sgI, if_pos h2, h3]
      rw [hE9]
      exact rfl
    · refine zj_aload_n (pc := 19) C dX3_readSign_19 rfl ?_
      refine zj_dup (pc := 20) C dX3_readSign_20 rfl ?_
      refine gf_X3_2 (pc := 21) C dX3_readSign_21 0 rfl ?_
      refine zj_iconst (pc := 24) (v := 1) C dX3_readSign_24 (by decide) ?_
      refine zj_iadd (pc := 25) C dX3_readSign_25 ?_
      refine zj_top (x' := nI (s.1 + 1)) (nI_1 _) ?_
      refine pf_X3_2 (pc := 26) C dX3_readSign_26 0 rfl ?_
      refine zj_goto (pc := 29) (tgt := 37) C dX3_readSign_29 (by decide) ?_
      refine zj_vretF C hr hlocks dX3_readSign_37 ?_
      have hlt : s.1 < n := by
        by_cases h : s.1 < n
        · exact h
        · rw [sgI, if_neg h] at c_16
          exact absurd c_16.symm (nI_ne5 (by omega))
      have htc : t s.1 = cc := by
        rw [sgI, if_pos hlt] at c_16
        exact (nI_eq (by have := hc _ hlt; omega) (by omega)).mp c_16
      have hE9 : rdS t n cc s = (s.1 + 1, false) := if_pos ⟨c_4, hlt, htc⟩
      rw [hE9, c_4]
      exact rfl
set_option maxRecDepth 100000 in
set_option maxHeartbeats 4000000 in
theorem m_X3_readNumber {l : Launch} {G : GG} {a b n : Nat} {t : Nat → Nat} {s : Nat × Bool} {rl : Bool} {o o2 ln d : Nat} {lo hi : Nat} (hn : n ≤ 60) (hc : ∀ k, k < n → t k < 65536) (hs : s.1 ≤ 60) (hlo : lo ≤ 1) (hhi : hi ≤ 20) : zX l G yX3_readNumber cX3_readNumber 5 (some .int) 2 43 0 0 [.ref a, .int (nI lo), .int (nI hi)] (text G a b t n (s, (rl, o, o2, ln, d))) (zF (some (.int (nI (rdN t n lo hi s).1))) (text G a b t n ((rdN t n lo hi s).2, (rl, o, o2, ln, d)))) := by
  refine zj_startF RX3 (by decide +kernel) rfl rfl rfl (bs := [[(a, .inr (3, [.ref b, .int (nI n), .int (nI s.1), .int (bI s.2), .int (bI rl), .int (nI o), .int (nI o2), .int (nI ln), .int (nI d)]))], [(b, .inl (G.2 1, 60, .inl (fun k => nI (t k))))]]) rfl (lo := [some (.ref a), some (.int (nI lo)), some (.int (nI hi)), none, none]) rfl ?_
  intro p0 e0 s0 m0 args0 below0 meth0 c0 A0 C hr hlocks
  refine zj_aload_n (pc := 0) C dX3_readNumber_0 rfl ?_
  refine zj_aload_n (pc := 1) C dX3_readNumber_1 rfl ?_
  refine gf_X3_2 (pc := 2) C dX3_readNumber_2 0 rfl ?_
  refine zj_callPA (pc := 5) C kv_X3_69 (m_X3_digitAt hn hc (by omega)) dX3_readNumber_5 [0, 1] [] rfl rfl rfl rfl rfl rfl rfl rfl ⟨0, rfl⟩ rfl rfl ?_
  refine zj_top (x' := optI (dg t n s.1)) rfl ?_
  refine zj_istore_n (pc := 8) C dX3_readNumber_8 (Nat.le_of_ble_eq_true rfl) ?_
  refine zj_aload_n (pc := 9) C dX3_readNumber_9 rfl ?_
  refine gf_X3_3 (pc := 10) C dX3_readNumber_10 0 rfl ?_
  refine zj_ifb_ne (pc := 13) 26 C dX3_readNumber_13 (by decide) (fun c_13 => ?_) (fun c_13 => ?_)
  · refine zj_aload_n (pc := 26) C dX3_readNumber_26 rfl ?_
    refine zj_iconst (pc := 27) (v := 1) C dX3_readNumber_27 (by decide) ?_
    refine pf_X3_3 (pc := 28) (x := true) C dX3_readNumber_28 0 rfl ?_
    refine zj_iconst (pc := 31) (v := 0) C dX3_readNumber_31 (by decide) ?_
    have hE9 : rdN t n lo hi s = (0, (s.1, true)) := by
      unfold rdN
      rw [if_pos c_13]
    exact zj_iretF C hr hlocks dX3_readNumber_32 (by rw [hE9]; rfl) (by rw [hE9]; rfl)
  · refine zj_iload_n (pc := 16) C dX3_readNumber_16 rfl ?_
    refine zj_iload_n (pc := 17) C dX3_readNumber_17 rfl ?_
    refine zj_icmp_lt (pc := 18) 26 C dX3_readNumber_18 (by decide) (fun c_18 => ?_) (fun c_18 => ?_)
    · refine zj_aload_n (pc := 26) C dX3_readNumber_26 rfl ?_
      refine zj_iconst (pc := 27) (v := 1) C dX3_readNumber_27 (by decide) ?_
      refine pf_X3_3 (pc := 28) (x := true) C dX3_readNumber_28 0 rfl ?_
      refine zj_iconst (pc := 31) (v := 0) C dX3_readNumber_31 (by decide) ?_
      have hE9 : rdN t n lo hi s = (0, (s.1, true)) := by
        unfold rdN
        rw [if_neg (by rw [c_13]; decide)]
        cases hd : dg t n s.1 with
        | none => rfl
        | some d0 =>
          have hd9 := dg_lt hd
          rw [hd] at c_18
          have h1 : d0 < lo := (nI_ltI (by omega) (by omega)).mp c_18
          exact if_pos (Or.inl h1)
      exact zj_iretF C hr hlocks dX3_readNumber_32 (by rw [hE9]; rfl) (by rw [hE9]; rfl)
    · refine zj_iload_n (pc := 21) C dX3_readNumber_21 rfl ?_
      refine zj_iload_n (pc := 22) C dX3_readNumber_22 rfl ?_
      refine zj_icmp_le (pc := 23) 33 C dX3_readNumber_23 (by decide) (fun c_23 => ?_) (fun c_23 => ?_)
      · obtain ⟨d1, hd1⟩ : ∃ d1, dg t n s.1 = some d1 := by
          cases hd : dg t n s.1 with
          | none => rw [hd] at c_18; exact absurd (Int32.lt_of_lt_of_le (show (-5 : Int32) < 0 by decide) (nI_pos' (by omega))) c_18
          | some d0 => exact ⟨d0, rfl⟩
        have hd9 := dg_lt hd1
        rw [hd1] at c_18 c_23
        have h1 : ¬ d1 < lo := fun h => c_18 (nI_lt h (by omega))
        have h2 : d1 ≤ hi := zle c_23 (by omega)
        refine zj_loc (lo' := [some (.ref a), some (.int (nI lo)), some (.int (nI hi)), some (.int (nI d1)), none]) (by rw [hd1]; rfl) ?_
        refine zj_aload_n (pc := 33) C dX3_readNumber_33 rfl ?_
        refine zj_dup (pc := 34) C dX3_readNumber_34 rfl ?_
        refine gf_X3_2 (pc := 35) C dX3_readNumber_35 0 rfl ?_
        refine zj_iconst (pc := 38) (v := 1) C dX3_readNumber_38 (by decide) ?_
        refine zj_iadd (pc := 39) C dX3_readNumber_39 ?_
        refine zj_top (x' := nI (s.1 + 1)) (nI_1 _) ?_
        refine pf_X3_2 (pc := 40) C dX3_readNumber_40 0 rfl ?_
        refine zj_aload_n (pc := 43) C dX3_readNumber_43 rfl ?_
        refine zj_aload_n (pc := 44) C dX3_readNumber_44 rfl ?_
        refine gf_X3_2 (pc := 45) C dX3_readNumber_45 0 rfl ?_
        refine zj_callPA (pc := 48) C kv_X3_69 (m_X3_digitAt (s := (s.1 + 1, s.2)) (i := s.1 + 1) hn hc (by omega)) dX3_readNumber_48 [0, 1] [] rfl rfl rfl rfl rfl rfl rfl rfl ⟨0, rfl⟩ rfl rfl ?_
        refine zj_top (x' := optI (dg t n (s.1 + 1))) rfl ?_
        refine zj_istore (pc := 51) C dX3_readNumber_51 (Nat.le_of_ble_eq_true rfl) ?_
        refine zj_iload_n (pc := 53) C dX3_readNumber_53 rfl ?_
        refine zj_if_le (pc := 54) 93 C dX3_readNumber_54 (by decide) (fun c_54 => ?_) (fun c_54 => ?_)
        · have h3 : d1 = 0 := by
            rcases Nat.eq_zero_or_pos d1 with h | h
            · exact h
            · exact absurd c_54 (nI_nle h (by omega))
          refine zj_iload_n (pc := 93) C dX3_readNumber_93 rfl ?_
          have e0 : rdN t n lo hi s = (match dg t n (s.1 + 1) with
              | none => (d1, (s.1 + 1, false))
              | some e => if 0 < d1 ∧ d1 * 10 + e ≤ hi then (d1 * 10 + e, (s.1 + 1 + 1, false)) else (d1, (s.1 + 1, false))) := by
            unfold rdN
            rw [if_neg (by rw [c_13]; decide), hd1]
            exact if_neg (by omega)
          have hE9 : rdN t n lo hi s = (d1, (s.1 + 1, false)) := by
            rw [e0]
            split
            · rfl
            · exact if_neg (by omega)
          exact zj_iretF C hr hlocks dX3_readNumber_94 (by rw [hE9]) (by rw [hE9, c_13]; rfl)
        · have h3 : 0 < d1 := by
            rcases Nat.eq_zero_or_pos d1 with h | h
            · exact absurd (by rw [h]; decide) c_54
            · exact h
          refine zj_iload (pc := 57) C dX3_readNumber_57 rfl ?_
          refine zj_bipush (pc := 59) (v := (-5)) C dX3_readNumber_59 (by decide) ?_
          refine zj_icmp_eq (pc := 61) 93 C dX3_readNumber_61 (by decide) (fun c_61 => ?_) (fun c_61 => ?_)
          · have he1 : dg t n (s.1 + 1) = none := (optI_5 (fun i h => by have := dg_lt h; omega)).mp c_61
            refine zj_iload_n (pc := 93) C dX3_readNumber_93 rfl ?_
            have e0 : rdN t n lo hi s = (match dg t n (s.1 + 1) with
                | none => (d1, (s.1 + 1, false))
                | some e => if 0 < d1 ∧ d1 * 10 + e ≤ hi then (d1 * 10 + e, (s.1 + 1 + 1, false)) else (d1, (s.1 + 1, false))) := by
              unfold rdN
              rw [if_neg (by rw [c_13]; decide), hd1]
              exact if_neg (by omega)
            have hE9 : rdN t n lo hi s = (d1, (s.1 + 1, false)) := by
              rw [e0, he1]
            exact zj_iretF C hr hlocks dX3_readNumber_94 (by rw [hE9]) (by rw [hE9, c_13]; rfl)
          · obtain ⟨e1, he1⟩ : ∃ e1, dg t n (s.1 + 1) = some e1 := by
              cases he : dg t n (s.1 + 1) with
              | none => exact absurd (by rw [he]; rfl) c_61
              | some e0 => exact ⟨e0, rfl⟩
            have hhE9 := dg_lt he1
            refine zj_loc (lo' := [some (.ref a), some (.int (nI lo)), some (.int (nI hi)), some (.int (nI d1)), some (.int (nI e1))]) (by rw [he1]; rfl) ?_
            refine zj_iload_n (pc := 64) C dX3_readNumber_64 rfl ?_
            refine zj_bipush (pc := 65) (v := 10) C dX3_readNumber_65 (by decide) ?_
            refine zj_imul (pc := 67) C dX3_readNumber_67 ?_
            refine zj_iload (pc := 68) C dX3_readNumber_68 rfl ?_
            refine zj_iadd (pc := 70) C dX3_readNumber_70 ?_
            refine zj_top (x' := nI (d1 * 10 + e1)) (by rw [show (10 : Int32) = nI 10 from rfl, pk_mul, nI_add]) ?_
            refine zj_iload_n (pc := 71) C dX3_readNumber_71 rfl ?_
            refine zj_icmp_gt (pc := 72) 93 C dX3_readNumber_72 (by decide) (fun c_72 => ?_) (fun c_72 => ?_)
            · have h4 : hi < d1 * 10 + e1 := (nI_ltI (by omega) (by omega)).mp c_72
              refine zj_iload_n (pc := 93) C dX3_readNumber_93 rfl ?_
              have e0 : rdN t n lo hi s = (match dg t n (s.1 + 1) with
                  | none => (d1, (s.1 + 1, false))
                  | some e => if 0 < d1 ∧ d1 * 10 + e ≤ hi then (d1 * 10 + e, (s.1 + 1 + 1, false)) else (d1, (s.1 + 1, false))) := by
                unfold rdN
                rw [if_neg (by rw [c_13]; decide), hd1]
                exact if_neg (by omega)
              have hE9 : rdN t n lo hi s = (d1, (s.1 + 1, false)) := by
                rw [e0, he1]
                exact if_neg (by omega)
              exact zj_iretF C hr hlocks dX3_readNumber_94 (by rw [hE9]) (by rw [hE9, c_13]; rfl)
            · have h4 : d1 * 10 + e1 ≤ hi := Nat.not_lt.mp (fun h => c_72 (nI_lt h (by omega)))
              refine zj_iload_n (pc := 75) C dX3_readNumber_75 rfl ?_
              refine zj_bipush (pc := 76) (v := 10) C dX3_readNumber_76 (by decide) ?_
              refine zj_imul (pc := 78) C dX3_readNumber_78 ?_
              refine zj_iload (pc := 79) C dX3_readNumber_79 rfl ?_
              refine zj_iadd (pc := 81) C dX3_readNumber_81 ?_
              refine zj_top (x' := nI (d1 * 10 + e1)) (by rw [show (10 : Int32) = nI 10 from rfl, pk_mul, nI_add]) ?_
              refine zj_istore_n (pc := 82) C dX3_readNumber_82 (Nat.le_of_ble_eq_true rfl) ?_
              refine zj_aload_n (pc := 83) C dX3_readNumber_83 rfl ?_
              refine zj_dup (pc := 84) C dX3_readNumber_84 rfl ?_
              refine gf_X3_2 (pc := 85) C dX3_readNumber_85 0 rfl ?_
              refine zj_iconst (pc := 88) (v := 1) C dX3_readNumber_88 (by decide) ?_
              refine zj_iadd (pc := 89) C dX3_readNumber_89 ?_
              refine zj_top (x' := nI (s.1 + 1 + 1)) (nI_1 _) ?_
              refine pf_X3_2 (pc := 90) C dX3_readNumber_90 0 rfl ?_
              refine zj_iload_n (pc := 93) C dX3_readNumber_93 rfl ?_
              have e0 : rdN t n lo hi s = (match dg t n (s.1 + 1) with
                  | none => (d1, (s.1 + 1, false))
                  | some e => if 0 < d1 ∧ d1 * 10 + e ≤ hi then (d1 * 10 + e, (s.1 + 1 + 1, false)) else (d1, (s.1 + 1, false))) := by
                unfold rdN
                rw [if_neg (by rw [c_13]; decide), hd1]
                exact if_neg (by omega)
              have hE9 : rdN t n lo hi s = (d1 * 10 + e1, (s.1 + 1 + 1, false)) := by
                rw [e0, he1]
                exact if_pos (by omega)
              exact zj_iretF C hr hlocks dX3_readNumber_94 (by rw [hE9]) (by rw [hE9, c_13]; rfl)
      · refine zj_aload_n (pc := 26) C dX3_readNumber_26 rfl ?_
        refine zj_iconst (pc := 27) (v := 1) C dX3_readNumber_27 (by decide) ?_
        refine pf_X3_3 (pc := 28) (x := true) C dX3_readNumber_28 0 rfl ?_
        refine zj_iconst (pc := 31) (v := 0) C dX3_readNumber_31 (by decide) ?_
        have hE9 : rdN t n lo hi s = (0, (s.1, true)) := by
          unfold rdN
          rw [if_neg (by rw [c_13]; decide)]
          cases hd : dg t n s.1 with
          | none => rfl
          | some d0 =>
            have hd9 := dg_lt hd
            rw [hd] at c_23
            have h1 : ¬ d0 ≤ hi := fun h => c_23 (nI_le h (by omega))
            exact if_pos (Or.inr (by omega))
        exact zj_iretF C hr hlocks dX3_readNumber_32 (by rw [hE9]; rfl) (by rw [hE9]; rfl)
