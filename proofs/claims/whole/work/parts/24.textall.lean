theorem t_upd {t : Nat → Nat} {n c : Nat} (h : c < 65536) : upd (fun k => nI (t k)) n (vp_nar .char (nI c)) = fun k => nI (updN t n c k) := by
  have h1 : vp_nar .char (nI c) = nI c := by
    unfold vp_nar
    rw [(pk_charN h).1]
  rw [h1]
  exact nF_upd (f := t)
theorem ff_st {t : Nat → Nat} {n j : Nat} {T : T7} (h : T.1.2 = true) : ffR t n (j + 1) T = some T.1.1 ∧ ffS t n (j + 1) T = T := ⟨if_pos h, if_pos h⟩
theorem ff_en {t : Nat → Nat} {n j : Nat} {T : T7} (h : T.1.2 = false) (h2 : (rdP t n T).1.2 = false) (h3 : ¬ (rdP t n T).1.1 < n) : ffR t n (j + 1) T = none ∧ ffS t n (j + 1) T = rdP t n T := by
  constructor
  · show (if T.1.2 = true then _ else if _ then _ else _) = _
    rw [if_neg (by rw [h]; decide), if_pos ⟨h2, h3⟩]
  · show (if T.1.2 = true then _ else if _ then _ else _) = _
    rw [if_neg (by rw [h]; decide), if_pos ⟨h2, h3⟩]
theorem ff_go {t : Nat → Nat} {n j : Nat} {T : T7} (h : T.1.2 = false) (h2 : ¬ ((rdP t n T).1.2 = false ∧ ¬ (rdP t n T).1.1 < n)) : ffR t n (j + 1) T = ffR t n j (rdP t n T) ∧ ffS t n (j + 1) T = ffS t n j (rdP t n T) := by
  constructor
  · show (if T.1.2 = true then _ else if _ then _ else _) = _
    rw [if_neg (by rw [h]; decide), if_neg h2]
  · show (if T.1.2 = true then _ else if _ then _ else _) = _
    rw [if_neg (by rw [h]; decide), if_neg h2]
theorem ffS_le {t : Nat → Nat} {n : Nat} (hn : n ≤ 60) : ∀ (j : Nat) (T : T7), T.1.1 ≤ 60 → (ffS t n j T).1.1 ≤ 60
  | 0, T, h => h
  | j + 1, T, h => by
    unfold ffS
    split
    · exact h
    · split
      · exact rdP_le h hn
      · exact ffS_le hn j _ (rdP_le h hn)

set_option maxRecDepth 100000 in
set_option maxHeartbeats 4000000 in
theorem m_X3_append {l : Launch} {G : GG} {a b n : Nat} {t : Nat → Nat} {s : Nat × Bool} {rl : Bool} {o o2 ln d : Nat} {cv : Nat} (hn : n ≤ 60) (hcv : cv < 65536) : zX l G yX3_append cX3_append 2 (some .boolean) 0 0 0 0 [.ref a, .int (nI cv)] (text G a b t n (s, (rl, o, o2, ln, d))) (zF (some (.int (bI (decide (n < 60))))) (text G a b (if n < 60 then updN t n cv else t) (if n < 60 then n + 1 else n) (s, (rl, o, o2, ln, d)))) := by
  refine zj_startF RX3 (by decide +kernel) rfl rfl rfl (bs := [[(a, .inr (3, [.ref b, .int (nI n), .int (nI s.1), .int (bI s.2), .int (bI rl), .int (nI o), .int (nI o2), .int (nI ln), .int (nI d)]))], [(b, .inl (G.2 1, 60, .inl (fun k => nI (t k))))]]) rfl (lo := [some (.ref a), some (.int (nI cv))]) rfl ?_
  intro p0 e0 s0 m0 args0 below0 meth0 c0 A0 C hr hlocks
  refine zj_aload_n (pc := 0) C dX3_append_0 rfl ?_
  refine gf_X3_1 (pc := 1) C dX3_append_1 0 rfl ?_
  refine zj_if_lt (pc := 4) 19 C dX3_append_4 (by decide) (fun c_4 => absurd c_4 (nI_pos (by omega))) (fun c_4 => ?_)
  refine zj_aload_n (pc := 7) C dX3_append_7 rfl ?_
  refine gf_X3_1 (pc := 8) C dX3_append_8 0 rfl ?_
  refine zj_aload_n (pc := 11) C dX3_append_11 rfl ?_
  refine gf_X3_0 (pc := 12) C dX3_append_12 0 rfl ?_
  refine zj_alen (pc := 15) (t0 := 1) C dX3_append_15 1 (by decide) rfl ?_
  refine zj_icmp_lt (pc := 16) 21 C dX3_append_16 (by decide) (fun c_16 => ?_) (fun c_16 => ?_)
  · have hlt : n < 60 := (nI_ltI (by omega) (by decide)).mp c_16
    refine zj_aload_n (pc := 21) C dX3_append_21 rfl ?_
    refine gf_X3_0 (pc := 22) C dX3_append_22 0 rfl ?_
    refine zj_aload_n (pc := 25) C dX3_append_25 rfl ?_
    refine gf_X3_1 (pc := 26) C dX3_append_26 0 rfl ?_
    refine zj_iload_n (pc := 29) C dX3_append_29 rfl ?_
    refine zj_cast (pc := 30) (n) C dX3_append_30 1 rfl rfl hlt (by decide) ?_
    refine zj_aload_n (pc := 31) C dX3_append_31 rfl ?_
    refine zj_dup (pc := 32) C dX3_append_32 rfl ?_
    refine gf_X3_1 (pc := 33) C dX3_append_33 0 rfl ?_
    refine zj_iconst (pc := 36) (v := 1) C dX3_append_36 (by decide) ?_
    refine zj_iadd (pc := 37) C dX3_append_37 ?_
    refine zj_top (x' := nI (n + 1)) (nI_1 _) ?_
    refine pf_X3_1 (pc := 38) C dX3_append_38 0 rfl ?_
    refine zj_iconst (pc := 41) (v := 1) C dX3_append_41 (by decide) ?_
    exact zj_zretF C hr hlocks dX3_append_42 (by rw [decide_eq_true hlt]; rfl) (by rw [if_pos hlt, if_pos hlt, t_upd hcv]; rfl)
  · have hge : ¬ n < 60 := fun h => c_16 (nI_lt h (by decide))
    refine zj_iconst (pc := 19) (v := 0) C dX3_append_19 (by decide) ?_
    exact zj_zretF C hr hlocks dX3_append_20 (by rw [decide_eq_false hge]; rfl) (by rw [if_neg hge, if_neg hge]; rfl)
set_option maxRecDepth 100000 in
set_option maxHeartbeats 4000000 in
theorem m_X3_findFault {l : Launch} {G : GG} {a b n : Nat} {t : Nat → Nat} {s : Nat × Bool} {rl : Bool} {o o2 ln d : Nat} (hn : n ≤ 60) (hc : ∀ k, k < n → t k < 65536) : zX l G yX3_findFault cX3_findFault 2 (some .int) 5 107 0 0 [.ref a] (text G a b t n (s, (rl, o, o2, ln, d))) (zF (some (.int (optI (ffR t n 60 ((0, false), (rl, o, o2, ln, d)))))) (text G a b t n (ffS t n 60 ((0, false), (rl, o, o2, ln, d))))) := by
  refine zj_startF RX3 (by decide +kernel) rfl rfl rfl (bs := [[(a, .inr (3, [.ref b, .int (nI n), .int (nI s.1), .int (bI s.2), .int (bI rl), .int (nI o), .int (nI o2), .int (nI ln), .int (nI d)]))], [(b, .inl (G.2 1, 60, .inl (fun k => nI (t k))))]]) rfl (lo := [some (.ref a), none]) rfl ?_
  intro p0 e0 s0 m0 args0 below0 meth0 c0 A0 C hr hlocks
  refine zj_aload_n (pc := 0) C dX3_findFault_0 rfl ?_
  refine zj_callA (pc := 1) C kv_X3_41 (m_X3_start) dX3_findFault_1 [0, 1] [] rfl rfl rfl rfl rfl rfl rfl rfl ⟨0, rfl⟩ rfl rfl (fun v w1 hq => ?_)
  obtain ⟨rfl, rfl⟩ := hq
  refine zj_blk (bs' := [[(a, .inr (3, [.ref b, .int (nI n), .int (nI ((0, false), (rl, o, o2, ln, d)).1.1), .int (bI ((0, false), (rl, o, o2, ln, d)).1.2), .int (bI ((0, false), (rl, o, o2, ln, d)).2.1), .int (nI ((0, false), (rl, o, o2, ln, d)).2.2.1), .int (nI ((0, false), (rl, o, o2, ln, d)).2.2.2.1), .int (nI ((0, false), (rl, o, o2, ln, d)).2.2.2.2.1), .int (nI ((0, false), (rl, o, o2, ln, d)).2.2.2.2.2)]))], [(b, .inl (G.2 1, 60, .inl (fun k => nI (t k))))]]) rfl ?_
  refine zj_iconst (pc := 4) (v := 0) C dX3_findFault_4 (by decide) ?_
  refine zj_istore_n (pc := 5) C dX3_findFault_5 (Nat.le_of_ble_eq_true rfl) ?_
  refine zj_keep [true, true] ?_
  refine zj_loopW (σ := (Nat × T7)) (fun x => x.1 ≤ 60 ∧ x.2.1.1 ≤ 60 ∧ ffR t n 60 ((0, false), (rl, o, o2, ln, d)) = ffR t n (60 - x.1) x.2 ∧ ffS t n 60 ((0, false), (rl, o, o2, ln, d)) = ffS t n (60 - x.1) x.2) (fun x => 60 - x.1) (fun x => [[(a, .inr (3, [.ref b, .int (nI n), .int (nI x.2.1.1), .int (bI x.2.1.2), .int (bI x.2.2.1), .int (nI x.2.2.2.1), .int (nI x.2.2.2.2.1), .int (nI x.2.2.2.2.2.1), .int (nI x.2.2.2.2.2.2)]))], [(b, .inl (G.2 1, 60, .inl (fun k => nI (t k))))]]) (fun x => [some (.ref a), some (.int (nI x.1))]) ?_ (0, ((0, false), (rl, o, o2, ln, d))) ⟨Nat.zero_le _, Nat.zero_le _, rfl, rfl⟩
  intro x hx ih
  obtain ⟨k, T⟩ := x
  obtain ⟨hk, hT, hR, hF⟩ := hx
  replace hk : k ≤ 60 := hk
  replace hT : T.1.1 ≤ 60 := hT
  replace hR : ffR t n 60 ((0, false), (rl, o, o2, ln, d)) = ffR t n (60 - k) T := hR
  replace hF : ffS t n 60 ((0, false), (rl, o, o2, ln, d)) = ffS t n (60 - k) T := hF
  refine zj_eq (bs' := [[(a, .inr (3, [.ref b, .int (nI n), .int (nI T.1.1), .int (bI T.1.2), .int (bI T.2.1), .int (nI T.2.2.1), .int (nI T.2.2.2.1), .int (nI T.2.2.2.2.1), .int (nI T.2.2.2.2.2)]))], [(b, .inl (G.2 1, 60, .inl (fun k => nI (t k))))]]) (lo' := [some (.ref a), some (.int (nI k))]) rfl rfl rfl ?_
  refine zj_iload_n (pc := 6) C dX3_findFault_6 rfl ?_
  refine zj_bipush (pc := 7) (v := 60) C dX3_findFault_7 (by decide) ?_
  refine zj_icmp_ge (pc := 9) 46 C dX3_findFault_9 (by decide) (fun c_9 => ?_) (fun c_9 => ?_)
  · refine zj_aload_n (pc := 46) C dX3_findFault_46 rfl ?_
    refine gf_X3_2 (pc := 47) C dX3_findFault_47 0 rfl ?_
    have hk9 : k = 60 := Nat.le_antisymm hk (zle c_9 (by omega))
    rw [hk9] at hR hF
    exact zj_iretF C hr hlocks dX3_findFault_50 (by rw [hR]; rfl) (by rw [hF]; rfl)
  · have hk60 : k + 1 ≤ 60 := zlt (b := 60) c_9 (by omega)
    refine zj_aload_n (pc := 12) C dX3_findFault_12 rfl ?_
    refine gf_X3_3 (pc := 13) C dX3_findFault_13 0 rfl ?_
    refine zj_ifb_ne (pc := 16) 46 C dX3_findFault_16 (by decide) (fun c_16 => ?_) (fun c_16 => ?_)
    · refine zj_aload_n (pc := 46) C dX3_findFault_46 rfl ?_
      refine gf_X3_2 (pc := 47) C dX3_findFault_47 0 rfl ?_
      have hst := ff_st (t := t) (n := n) (j := 59 - k) c_16
      rw [show 60 - k = 59 - k + 1 by omega] at hR hF
      exact zj_iretF C hr hlocks dX3_findFault_50 (by rw [hR, hst.1]; rfl) (by rw [hF, hst.2]; rfl)
    · refine zj_aload_n (pc := 19) C dX3_findFault_19 rfl ?_
      refine zj_callA (pc := 20) C kv_X3_44 (m_X3_readPart (s := T.1) hn hc hT) dX3_findFault_20 [0, 1] [] rfl rfl rfl rfl rfl rfl rfl rfl ⟨0, rfl⟩ rfl rfl (fun v w1 hq => ?_)
      obtain ⟨rfl, rfl⟩ := hq
      refine zj_blk (bs' := [[(a, .inr (3, [.ref b, .int (nI n), .int (nI (rdP t n T).1.1), .int (bI (rdP t n T).1.2), .int (bI (rdP t n T).2.1), .int (nI (rdP t n T).2.2.1), .int (nI (rdP t n T).2.2.2.1), .int (nI (rdP t n T).2.2.2.2.1), .int (nI (rdP t n T).2.2.2.2.2)]))], [(b, .inl (G.2 1, 60, .inl (fun k => nI (t k))))]]) rfl ?_
      refine zj_aload_n (pc := 23) C dX3_findFault_23 rfl ?_
      refine gf_X3_3 (pc := 24) C dX3_findFault_24 0 rfl ?_
      refine zj_ifb_ne (pc := 27) 40 C dX3_findFault_27 (by decide) (fun c_27 => ?_) (fun c_27 => ?_)
      · refine zj_iinc (pc := 40) (v := nI (k + 1)) C dX3_findFault_40 rfl (nI_1 _) ?_
        refine zj_goto (pc := 43) (tgt := 6) C dX3_findFault_43 (by decide) ?_
        have hgo := ff_go (j := 59 - k) (t := t) (n := n) c_16 (by rw [c_27]; simp)
        refine ih (k + 1, rdP t n T) ⟨hk60, rdP_le hT hn, ?_, ?_⟩ (by show 60 - (k + 1) < 60 - k; omega)
        · show _ = ffR t n (60 - (k + 1)) _
          rw [hR, show 60 - k = 59 - k + 1 by omega, hgo.1, show 60 - (k + 1) = 59 - k by omega]
        · show _ = ffS t n (60 - (k + 1)) _
          rw [hF, show 60 - k = 59 - k + 1 by omega, hgo.2, show 60 - (k + 1) = 59 - k by omega]
      · refine zj_aload_n (pc := 30) C dX3_findFault_30 rfl ?_
        refine zj_callPA (pc := 31) C kv_X3_47 (m_X3_hasMore (s := (rdP t n T).1) hn (rdP_le hT hn)) dX3_findFault_31 [0, 1] [] rfl rfl rfl rfl rfl rfl rfl rfl ⟨0, rfl⟩ rfl rfl ?_
        refine zj_ifb_ne (pc := 34) 40 C dX3_findFault_34 (by decide) (fun c_34 => ?_) (fun c_34 => ?_)
        · refine zj_iinc (pc := 40) (v := nI (k + 1)) C dX3_findFault_40 rfl (nI_1 _) ?_
          refine zj_goto (pc := 43) (tgt := 6) C dX3_findFault_43 (by decide) ?_
          have hgo := ff_go (j := 59 - k) (t := t) (n := n) c_16 (by rintro ⟨-, h⟩; exact h (of_decide_eq_true c_34))
          refine ih (k + 1, rdP t n T) ⟨hk60, rdP_le hT hn, ?_, ?_⟩ (by show 60 - (k + 1) < 60 - k; omega)
          · show _ = ffR t n (60 - (k + 1)) _
            rw [hR, show 60 - k = 59 - k + 1 by omega, hgo.1, show 60 - (k + 1) = 59 - k by omega]
          · show _ = ffS t n (60 - (k + 1)) _
            rw [hF, show 60 - k = 59 - k + 1 by omega, hgo.2, show 60 - (k + 1) = 59 - k by omega]
        · refine zj_bipush (pc := 37) (v := (-5)) C dX3_findFault_37 (by decide) ?_
          have hen := ff_en (j := 59 - k) c_16 c_27 (of_decide_eq_false c_34)
          rw [show 60 - k = 59 - k + 1 by omega] at hR hF
          exact zj_iretF C hr hlocks dX3_findFault_39 (by rw [hR, hen.1]; rfl) (by rw [hF, hen.2]; rfl)
