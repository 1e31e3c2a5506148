set_option maxRecDepth 100000 in
set_option maxHeartbeats 4000000 in
theorem m_X5_between {l : Launch} {G : GG} {a b : Nat} {D : Nat → Nat → Nat → Nat} {d x y : Nat} (hd : d < 5) (hx : x < 14) (hy : y < 14) : zX l G yX5_between cX5_between 5 (some .int) 0 0 0 0 [.ref a, .int (nI d), .int (nI x), .int (nI y)] (ways G a b D) (zF (some (.int (nI (D d x y)))) (ways G a b D)) := by
  refine zj_startF RX5 (by decide +kernel) rfl rfl rfl (bs := [[(a, .inr (5, [.ref b]))], [(b, .inl (G.2 0, 980, .inl (wF D)))]]) rfl (lo := [some (.ref a), some (.int (nI d)), some (.int (nI x)), some (.int (nI y)), none]) rfl ?_
  intro p0 e0 s0 m0 args0 below0 meth0 c0 A0 C hr hlocks
  refine zj_iload_n (pc := 0) C dX5_between_0 rfl ?_
  refine zj_bipush (pc := 1) (v := 14) C dX5_between_1 (by decide) ?_
  refine zj_imul (pc := 3) C dX5_between_3 ?_
  refine zj_iload_n (pc := 4) C dX5_between_4 rfl ?_
  refine zj_iadd (pc := 5) C dX5_between_5 ?_
  refine zj_bipush (pc := 6) (v := 14) C dX5_between_6 (by decide) ?_
  refine zj_imul (pc := 8) C dX5_between_8 ?_
  refine zj_iload_n (pc := 9) C dX5_between_9 rfl ?_
  refine zj_iadd (pc := 10) C dX5_between_10 ?_
  refine zj_top (x' := nI ((d * 14 + x) * 14 + y)) w_ixI ?_
  refine zj_istore (pc := 11) C dX5_between_11 (Nat.le_of_ble_eq_true rfl) ?_
  refine zj_iload (pc := 13) C dX5_between_13 rfl ?_
  refine zj_if_lt (pc := 15) 38 C dX5_between_15 (by decide) (fun c_15 => absurd c_15 (nI_pos (by omega))) (fun c_15 => ?_)
  refine zj_iload (pc := 18) C dX5_between_18 rfl ?_
  refine zj_aload_n (pc := 20) C dX5_between_20 rfl ?_
  refine gf_X5_0 (pc := 21) C dX5_between_21 0 rfl ?_
  refine zj_alen (pc := 24) (t0 := 0) C dX5_between_24 1 (by decide) rfl ?_
  refine zj_icmp_ge (pc := 25) 38 C dX5_between_25 (by decide) (fun c_25 => absurd c_25 (nI_ge (by omega) (by decide))) (fun c_25 => ?_)
  refine zj_aload_n (pc := 28) C dX5_between_28 rfl ?_
  refine gf_X5_0 (pc := 29) C dX5_between_29 0 rfl ?_
  refine zj_iload (pc := 32) C dX5_between_32 rfl ?_
  refine zj_iald (pc := 34) (((d * 14 + x) * 14 + y)) C dX5_between_34 1 rfl rfl (by omega) (by decide) ?_
  refine zj_goto (pc := 35) (tgt := 40) C dX5_between_35 (by decide) ?_
  refine zj_iretF C hr hlocks dX5_between_40 ?_ rfl
  exact congrArg id (wF_at hx hy)
set_option maxRecDepth 100000 in
set_option maxHeartbeats 4000000 in
theorem m_X5_put {l : Launch} {G : GG} {a b : Nat} {D : Nat → Nat → Nat → Nat} {d x y v : Nat} (hd : d < 5) (hx : x < 14) (hy : y < 14) : zX l G yX5_put cX5_put 6 none 0 0 0 0 [.ref a, .int (nI d), .int (nI x), .int (nI y), .int (nI v)] (ways G a b D) (zF none (ways G a b (uD D d x y v))) := by
  refine zj_startF RX5 (by decide +kernel) rfl rfl rfl (bs := [[(a, .inr (5, [.ref b]))], [(b, .inl (G.2 0, 980, .inl (wF D)))]]) rfl (lo := [some (.ref a), some (.int (nI d)), some (.int (nI x)), some (.int (nI y)), some (.int (nI v)), none]) rfl ?_
  intro p0 e0 s0 m0 args0 below0 meth0 c0 A0 C hr hlocks
  refine zj_iload_n (pc := 0) C dX5_put_0 rfl ?_
  refine zj_bipush (pc := 1) (v := 14) C dX5_put_1 (by decide) ?_
  refine zj_imul (pc := 3) C dX5_put_3 ?_
  refine zj_iload_n (pc := 4) C dX5_put_4 rfl ?_
  refine zj_iadd (pc := 5) C dX5_put_5 ?_
  refine zj_bipush (pc := 6) (v := 14) C dX5_put_6 (by decide) ?_
  refine zj_imul (pc := 8) C dX5_put_8 ?_
  refine zj_iload_n (pc := 9) C dX5_put_9 rfl ?_
  refine zj_iadd (pc := 10) C dX5_put_10 ?_
  refine zj_top (x' := nI ((d * 14 + x) * 14 + y)) w_ixI ?_
  refine zj_istore (pc := 11) C dX5_put_11 (Nat.le_of_ble_eq_true rfl) ?_
  refine zj_iload (pc := 13) C dX5_put_13 rfl ?_
  refine zj_if_lt (pc := 15) 37 C dX5_put_15 (by decide) (fun c_15 => absurd c_15 (nI_pos (by omega))) (fun c_15 => ?_)
  refine zj_iload (pc := 18) C dX5_put_18 rfl ?_
  refine zj_aload_n (pc := 20) C dX5_put_20 rfl ?_
  refine gf_X5_0 (pc := 21) C dX5_put_21 0 rfl ?_
  refine zj_alen (pc := 24) (t0 := 0) C dX5_put_24 1 (by decide) rfl ?_
  refine zj_icmp_ge (pc := 25) 37 C dX5_put_25 (by decide) (fun c_25 => absurd c_25 (nI_ge (by omega) (by decide))) (fun c_25 => ?_)
  refine zj_aload_n (pc := 28) C dX5_put_28 rfl ?_
  refine gf_X5_0 (pc := 29) C dX5_put_29 0 rfl ?_
  refine zj_iload (pc := 32) C dX5_put_32 rfl ?_
  refine zj_iload (pc := 34) C dX5_put_34 rfl ?_
  refine zj_iast (pc := 36) (((d * 14 + x) * 14 + y)) C dX5_put_36 1 rfl rfl (by omega) (by decide) ?_
  refine zj_vretF C hr hlocks dX5_put_37 ?_
  rw [wF_upd hx hy]
  exact rfl
set_option maxRecDepth 100000 in
set_option maxHeartbeats 4000000 in
theorem m_X5_clear {l : Launch} {G : GG} {a b : Nat} {D : Nat → Nat → Nat → Nat} {ly : Nat} (hly : ly < 5) : zX l G yX5_clear cX5_clear 4 none 1 25 0 0 [.ref a, .int (nI ly)] (ways G a b D) (zF none (ways G a b (clD D ly))) := by
  refine zj_startF RX5 (by decide +kernel) rfl rfl rfl (bs := [ways G a b D]) rfl (lo := [some (.ref a), some (.int (nI ly)), none, none]) rfl ?_
  intro p0 e0 s0 m0 args0 below0 meth0 c0 A0 C hr hlocks
  refine zj_iconst (pc := 0) (v := 0) C dX5_clear_0 (by decide) ?_
  refine zj_istore_n (pc := 1) C dX5_clear_1 (Nat.le_of_ble_eq_true rfl) ?_
  refine zj_keep [true, true, true, false] ?_
  refine zj_blk (bs' := [ways G a b (clI D ly 0 0)]) (by rw [← clI_0]) ?_
  refine zj_loopW (σ := Nat) (fun x => x ≤ 14) (fun x => 14 - x) (fun x => [ways G a b (clI D ly x 0)]) (fun x => [some (.ref a), some (.int (nI ly)), some (.int (nI x)), none]) ?_ 0 (Nat.zero_le _)
  intro i hi ih
  refine zj_iload_n (pc := 2) C dX5_clear_2 rfl ?_
  refine zj_bipush (pc := 3) (v := 14) C dX5_clear_3 (by decide) ?_
  refine zj_icmp_ge (pc := 5) 51 C dX5_clear_5 (by decide) (fun c_5 => ?_) (fun c_5 => ?_)
  · refine zj_vretF C hr hlocks dX5_clear_51 ?_
    rw [← clI_14, show i = 14 from Nat.le_antisymm hi (zle c_5 (by omega))]
    exact rfl
  · have hi14 : i < 14 := zlt c_5 (by omega)
    refine zj_iconst (pc := 8) (v := 0) C dX5_clear_8 (by decide) ?_
    refine zj_istore_n (pc := 9) C dX5_clear_9 (Nat.le_of_ble_eq_true rfl) ?_
    refine zj_keep [true, true, true, true] ?_
    refine zj_loopW (σ := Nat) (fun x => x ≤ 14) (fun x => 14 - x) (fun x => [ways G a b (clI D ly i x)]) (fun x => [some (.ref a), some (.int (nI ly)), some (.int (nI i)), some (.int (nI x))]) ?_ 0 (Nat.zero_le _)
    intro j hj ihj
    refine zj_iload_n (pc := 10) C dX5_clear_10 rfl ?_
    refine zj_bipush (pc := 11) (v := 14) C dX5_clear_11 (by decide) ?_
    refine zj_icmp_ge (pc := 13) 45 C dX5_clear_13 (by decide) (fun c_13 => ?_) (fun c_13 => ?_)
    · refine zj_iinc (pc := 45) (v := nI (i + 1)) C dX5_clear_45 rfl (nI_1 _) ?_
      refine zj_goto (pc := 48) (tgt := 2) C dX5_clear_48 (by decide) ?_
      refine zj_keep [true, true, true, false] ?_
      refine zj_blk (bs' := [ways G a b (clI D ly (i + 1) 0)]) (by rw [← clI_row, show j = 14 from Nat.le_antisymm hj (zle c_13 (by omega))]) ?_
      exact ih (i + 1) hi14 (by omega)
    · have hj14 : j < 14 := zlt c_13 (by omega)
      refine zj_aload_n (pc := 16) C dX5_clear_16 rfl ?_
      refine zj_iload_n (pc := 17) C dX5_clear_17 rfl ?_
      refine zj_iload_n (pc := 18) C dX5_clear_18 rfl ?_
      refine zj_iload_n (pc := 19) C dX5_clear_19 rfl ?_
      refine zj_iload_n (pc := 20) C dX5_clear_20 rfl ?_
      refine zj_iconst (pc := 21) (v := 4) C dX5_clear_21 (by decide) ?_
      refine zj_icmp_ne (pc := 22) 34 C dX5_clear_22 (by decide) (fun c_22 => ?_) (fun c_22 => ?_)
      · refine zj_ldc (pc := 34) (v := 1000000) C dX5_clear_34 aq_278 ?_
        refine zj_callF1n (pc := 36) C kv_X5_16 (m_X5_put (v := 1000000) hly hi14 hj14) dX5_clear_36 0 rfl rfl rfl rfl rfl rfl rfl ⟨0, rfl⟩ rfl rfl ?_
        refine zj_iinc (pc := 39) (v := nI (j + 1)) C dX5_clear_39 rfl (nI_1 _) ?_
        refine zj_goto (pc := 42) (tgt := 10) C dX5_clear_42 (by decide) ?_
        have hv : clV ly i j = 1000000 := by
          rw [show (4 : Int32) = nI 4 from rfl, nI_eq (by omega) (by omega)] at c_22
          exact if_neg (by omega)
        refine zj_blk (bs' := [ways G a b (clI D ly i (j + 1))]) (by rw [← clI_s, hv]; rfl) ?_
        exact ihj (j + 1) hj14 (by omega)
      · refine zj_iload_n (pc := 25) C dX5_clear_25 rfl ?_
        refine zj_iload_n (pc := 26) C dX5_clear_26 rfl ?_
        refine zj_icmp_ne (pc := 27) 34 C dX5_clear_27 (by decide) (fun c_27 => ?_) (fun c_27 => ?_)
        · refine zj_ldc (pc := 34) (v := 1000000) C dX5_clear_34 aq_278 ?_
          refine zj_callF1n (pc := 36) C kv_X5_16 (m_X5_put (v := 1000000) hly hi14 hj14) dX5_clear_36 0 rfl rfl rfl rfl rfl rfl rfl ⟨0, rfl⟩ rfl rfl ?_
          refine zj_iinc (pc := 39) (v := nI (j + 1)) C dX5_clear_39 rfl (nI_1 _) ?_
          refine zj_goto (pc := 42) (tgt := 10) C dX5_clear_42 (by decide) ?_
          have hv : clV ly i j = 1000000 := by
            rw [show (4 : Int32) = nI 4 from rfl, nI_eq (by omega) (by omega)] at c_22
            rw [nI_eq (by omega) (by omega)] at c_27
            exact if_neg (by omega)
          refine zj_blk (bs' := [ways G a b (clI D ly i (j + 1))]) (by rw [← clI_s, hv]; rfl) ?_
          exact ihj (j + 1) hj14 (by omega)
        · refine zj_iconst (pc := 30) (v := 0) C dX5_clear_30 (by decide) ?_
          refine zj_goto (pc := 31) (tgt := 36) C dX5_clear_31 (by decide) ?_
          refine zj_callF1n (pc := 36) C kv_X5_16 (m_X5_put (v := 0) hly hi14 hj14) dX5_clear_36 0 rfl rfl rfl rfl rfl rfl rfl ⟨0, rfl⟩ rfl rfl ?_
          refine zj_iinc (pc := 39) (v := nI (j + 1)) C dX5_clear_39 rfl (nI_1 _) ?_
          refine zj_goto (pc := 42) (tgt := 10) C dX5_clear_42 (by decide) ?_
          have hv : clV ly i j = 0 := by
            rw [show (4 : Int32) = nI 4 from rfl, nI_eq (by omega) (by omega)] at c_22
            rw [nI_eq (by omega) (by omega)] at c_27
            exact if_pos ⟨c_22, c_27⟩
          refine zj_blk (bs' := [ways G a b (clI D ly i (j + 1))]) (by rw [← clI_s, hv]; rfl) ?_
          exact ihj (j + 1) hj14 (by omega)
set_option maxRecDepth 100000 in
set_option maxHeartbeats 4000000 in
theorem m_X5_copyFrom {l : Launch} {G : GG} {a b a' b' : Nat} {D D' : Nat → Nat → Nat → Nat} : zX l G yX5_copyFrom cX5_copyFrom 2 none 1 26 0 0 [.ref a, .ref a'] (ways G a b D ++ ways G a' b' D') (zF none (ways G a b D' ++ ways G a' b' D')) := by
  refine zj_startF RX5 (by decide +kernel) rfl rfl rfl (bs := [[(a, .inr (5, [.ref b]))], [(b, .inl (G.2 0, 980, .inl (wF D)))], [(a', .inr (5, [.ref b']))], [(b', .inl (G.2 0, 980, .inl (wF D')))]]) rfl (lo := [some (.ref a), some (.ref a')]) rfl ?_
  intro p0 e0 s0 m0 args0 below0 meth0 c0 A0 C hr hlocks
  refine zj_aload_n (pc := 0) C dX5_copyFrom_0 rfl ?_
  refine gf_X5_0 (pc := 1) C dX5_copyFrom_1 2 rfl ?_
  refine zj_iconst (pc := 4) (v := 0) C dX5_copyFrom_4 (by decide) ?_
  refine zj_aload_n (pc := 5) C dX5_copyFrom_5 rfl ?_
  refine gf_X5_0 (pc := 6) C dX5_copyFrom_6 0 rfl ?_
  refine zj_iconst (pc := 9) (v := 0) C dX5_copyFrom_9 (by decide) ?_
  refine zj_aload_n (pc := 10) C dX5_copyFrom_10 rfl ?_
  refine gf_X5_0 (pc := 11) C dX5_copyFrom_11 2 rfl ?_
  refine zj_alen (pc := 14) (t0 := 0) C dX5_copyFrom_14 3 (by decide) rfl ?_
  refine zj_aload_n (pc := 15) C dX5_copyFrom_15 rfl ?_
  refine gf_X5_0 (pc := 16) C dX5_copyFrom_16 0 rfl ?_
  refine zj_alen (pc := 19) (t0 := 0) C dX5_copyFrom_19 1 (by decide) rfl ?_
  refine zj_mmin (pc := 20) C aq_642 aq_216 aq_29 aq_217 dX5_copyFrom_20 (zn_and rfl) (Nat.le_of_ble_eq_true rfl) (zn_and rfl) rfl ?_
  refine zj_copyi (pc := 23) (980) C aq_643 aq_220 aq_219 aq_34 dX5_copyFrom_23 (zn_and rfl) (Nat.le_of_ble_eq_true rfl) rfl 3 1 rfl rfl rfl rfl (by decide) (Nat.le_refl _) (Nat.le_refl _) (by decide) ?_
  refine zj_row 1 (wF D') rfl (fun k hk => pk_cpy_in (Nat.zero_le _) (by omega) |>.trans (congrArg (wF D') (by omega))) ?_
  refine zj_vretF C hr hlocks dX5_copyFrom_26 ?_
  exact rfl
set_option maxRecDepth 100000 in
set_option maxHeartbeats 4000000 in
theorem m_X5_shortenFrom {l : Launch} {G : GG} {a b : Nat} {D : Nat → Nat → Nat → Nat} {ly fr len ov : Nat} (hly : ly < 5) (hfr : fr < 14) (hov : ov < 14) (hlen : len ≤ 2000000) (hB : WB D) (hne : ov ≠ fr) : zX l G yX5_shortenFrom cX5_shortenFrom 7 none 1 25 0 0 [.ref a, .int (nI ly), .int (nI fr), .int (nI len), .int (nI ov)] (ways G a b D) (zF none (ways G a b (shD D ly fr len ov))) := by
  refine zj_startF RX5 (by decide +kernel) rfl rfl rfl (bs := [ways G a b D]) rfl (lo := [some (.ref a), some (.int (nI ly)), some (.int (nI fr)), some (.int (nI len)), some (.int (nI ov)), none, none]) rfl ?_
  intro p0 e0 s0 m0 args0 below0 meth0 c0 A0 C hr hlocks
  refine zj_iconst (pc := 0) (v := 0) C dX5_shortenFrom_0 (by decide) ?_
  refine zj_istore (pc := 1) C dX5_shortenFrom_1 (Nat.le_of_ble_eq_true rfl) ?_
  refine zj_keep [true, true, true, true, true, true, false] ?_
  refine zj_blk (bs' := [ways G a b (shI D ly fr len ov 0)]) (by rw [shI_0]) ?_
  refine zj_loopW (σ := Nat) (fun x => x ≤ 14) (fun x => 14 - x) (fun x => [ways G a b (shI D ly fr len ov x)]) (fun x => [some (.ref a), some (.int (nI ly)), some (.int (nI fr)), some (.int (nI len)), some (.int (nI ov)), some (.int (nI x)), none]) ?_ 0 (Nat.zero_le _)
  intro j hj ih
  refine zj_iload (pc := 3) C dX5_shortenFrom_3 rfl ?_
  refine zj_bipush (pc := 5) (v := 14) C dX5_shortenFrom_5 (by decide) ?_
  refine zj_icmp_ge (pc := 7) 52 C dX5_shortenFrom_7 (by decide) (fun c_7 => ?_) (fun c_7 => ?_)
  · refine zj_vretF C hr hlocks dX5_shortenFrom_52 ?_
    rw [← shI_14, show j = 14 from Nat.le_antisymm hj (zle c_7 (by omega))]
    exact rfl
  · have hj14 : j < 14 := zlt c_7 (by omega)
    have q1 := hB ly ov j hly hov hj14
    have q2 := hB ly fr j hly hfr hj14
    refine zj_iload_n (pc := 10) C dX5_shortenFrom_10 rfl ?_
    refine zj_aload_n (pc := 11) C dX5_shortenFrom_11 rfl ?_
    refine zj_iload_n (pc := 12) C dX5_shortenFrom_12 rfl ?_
    refine zj_iload (pc := 13) C dX5_shortenFrom_13 rfl ?_
    refine zj_iload (pc := 15) C dX5_shortenFrom_15 rfl ?_
    refine zj_callP1 (pc := 17) C kv_X5_32 (m_X5_between hly hov hj14) dX5_shortenFrom_17 0 rfl rfl rfl rfl rfl rfl rfl ⟨0, rfl⟩ rfl rfl ?_
    refine zj_top (x' := nI (D ly ov j)) (by rw [shI_ov hne]) ?_
    refine zj_iadd (pc := 20) C dX5_shortenFrom_20 ?_
    refine zj_top (x' := nI (len + D ly ov j)) (nI_add _ _) ?_
    refine zj_istore (pc := 21) C dX5_shortenFrom_21 (Nat.le_of_ble_eq_true rfl) ?_
    refine zj_iload (pc := 23) C dX5_shortenFrom_23 rfl ?_
    refine zj_aload_n (pc := 25) C dX5_shortenFrom_25 rfl ?_
    refine zj_iload_n (pc := 26) C dX5_shortenFrom_26 rfl ?_
    refine zj_iload_n (pc := 27) C dX5_shortenFrom_27 rfl ?_
    refine zj_iload (pc := 28) C dX5_shortenFrom_28 rfl ?_
    refine zj_callP1 (pc := 30) C kv_X5_32 (m_X5_between hly hfr hj14) dX5_shortenFrom_30 0 rfl rfl rfl rfl rfl rfl rfl ⟨0, rfl⟩ rfl rfl ?_
    refine zj_top (x' := nI (D ly fr j)) (by rw [shI_fr]) ?_
    refine zj_icmp_ge (pc := 33) 46 C dX5_shortenFrom_33 (by decide) (fun c_33 => ?_) (fun c_33 => ?_)
    · rw [nI_leI (by omega) (by omega)] at c_33
      refine zj_iinc (pc := 46) (v := nI (j + 1)) C dX5_shortenFrom_46 rfl (nI_1 _) ?_
      refine zj_goto (pc := 49) (tgt := 3) C dX5_shortenFrom_49 (by decide) ?_
      refine zj_keep [true, true, true, true, true, true, false] ?_
      refine zj_blk (bs' := [ways G a b (shI D ly fr len ov (j + 1))]) (by rw [← shI_n (by omega)]) ?_
      exact ih (j + 1) hj14 (by omega)
    · rw [nI_leI (by omega) (by omega)] at c_33
      refine zj_aload_n (pc := 36) C dX5_shortenFrom_36 rfl ?_
      refine zj_iload_n (pc := 37) C dX5_shortenFrom_37 rfl ?_
      refine zj_iload_n (pc := 38) C dX5_shortenFrom_38 rfl ?_
      refine zj_iload (pc := 39) C dX5_shortenFrom_39 rfl ?_
      refine zj_iload (pc := 41) C dX5_shortenFrom_41 rfl ?_
      refine zj_callF1n (pc := 43) C kv_X5_16 (m_X5_put hly hfr hj14) dX5_shortenFrom_43 0 rfl rfl rfl rfl rfl rfl rfl ⟨0, rfl⟩ rfl rfl ?_
      refine zj_iinc (pc := 46) (v := nI (j + 1)) C dX5_shortenFrom_46 rfl (nI_1 _) ?_
      refine zj_goto (pc := 49) (tgt := 3) C dX5_shortenFrom_49 (by decide) ?_
      refine zj_keep [true, true, true, true, true, true, false] ?_
      refine zj_blk (bs' := [ways G a b (shI D ly fr len ov (j + 1))]) (by rw [← shI_s (by omega)]; rfl) ?_
      exact ih (j + 1) hj14 (by omega)
set_option maxRecDepth 100000 in
set_option maxHeartbeats 4000000 in
theorem m_X5_join {l : Launch} {G : GG} {a b : Nat} {D : Nat → Nat → Nat → Nat} {ly o1 o2 len : Nat} (hly : ly < 5) (h1 : o1 < 14) (h2 : o2 < 14) (hl1 : 1 ≤ len) (hl2 : len ≤ 20) (hB : WB D) (hM : MD (D ly)) : zX l G yX5_join cX5_join 8 none 2 51 0 0 [.ref a, .int (nI ly), .int (nI o1), .int (nI o2), .int (nI len)] (ways G a b D) (zF none (ways G a b (jD D ly o1 o2 len))) := by
  refine zj_startF RX5 (by decide +kernel) rfl rfl rfl (bs := [ways G a b D]) rfl (lo := [some (.ref a), some (.int (nI ly)), some (.int (nI o1)), some (.int (nI o2)), some (.int (nI len)), none, none, none]) rfl ?_
  intro p0 e0 s0 m0 args0 below0 meth0 c0 A0 C hr hlocks
  have hM' := dz_MD hM o1 o2
  obtain ⟨z1, z2⟩ := dz_00 (e := D ly) (a := o1) (b := o2)
  refine zj_aload_n (pc := 0) C dX5_join_0 rfl ?_
  refine zj_iload_n (pc := 1) C dX5_join_1 rfl ?_
  refine zj_iload_n (pc := 2) C dX5_join_2 rfl ?_
  refine zj_iload_n (pc := 3) C dX5_join_3 rfl ?_
  refine zj_iconst (pc := 4) (v := 0) C dX5_join_4 (by decide) ?_
  refine zj_callF1n (pc := 5) C kv_X5_16 (m_X5_put (v := 0) hly h1 h1) dX5_join_5 0 rfl rfl rfl rfl rfl rfl rfl ⟨0, rfl⟩ rfl rfl ?_
  refine zj_aload_n (pc := 8) C dX5_join_8 rfl ?_
  refine zj_iload_n (pc := 9) C dX5_join_9 rfl ?_
  refine zj_iload_n (pc := 10) C dX5_join_10 rfl ?_
  refine zj_iload_n (pc := 11) C dX5_join_11 rfl ?_
  refine zj_iconst (pc := 12) (v := 0) C dX5_join_12 (by decide) ?_
  refine zj_callF1n (pc := 13) C kv_X5_16 (m_X5_put (v := 0) hly h2 h2) dX5_join_13 0 rfl rfl rfl rfl rfl rfl rfl ⟨0, rfl⟩ rfl rfl ?_
  refine zj_iconst (pc := 16) (v := 0) C dX5_join_16 (by decide) ?_
  refine zj_istore (pc := 17) C dX5_join_17 (Nat.le_of_ble_eq_true rfl) ?_
  refine zj_keep [true, true, true, true, true, true, false, false] ?_
  refine zj_blk (bs' := [ways G a b (jI D ly o1 o2 len 0)]) (by rw [← jI_0]; rfl) ?_
  refine zj_loopW (σ := Nat) (fun x => x ≤ 14) (fun x => 14 - x) (fun x => [ways G a b (jI D ly o1 o2 len x)]) (fun x => [some (.ref a), some (.int (nI ly)), some (.int (nI o1)), some (.int (nI o2)), some (.int (nI len)), some (.int (nI x)), none, none]) ?_ 0 (Nat.zero_le _)
  intro i hi ih
  refine zj_iload (pc := 19) C dX5_join_19 rfl ?_
  refine zj_bipush (pc := 21) (v := 14) C dX5_join_21 (by decide) ?_
  refine zj_icmp_ge (pc := 23) 107 C dX5_join_23 (by decide) (fun c_23 => ?_) (fun c_23 => ?_)
  · refine zj_vretF C hr hlocks dX5_join_107 ?_
    rw [← jI_14, show i = 14 from Nat.le_antisymm hi (zle c_23 (by omega))]
    exact rfl
  · have hi14 : i < 14 := zlt c_23 (by omega)
    have b1 := (hM' i o1 o1 hi14 h1 h1).1
    have b2 := (hM' i o2 o2 hi14 h2 h2).1
    refine zj_aload_n (pc := 26) C dX5_join_26 rfl ?_
    refine zj_iload_n (pc := 27) C dX5_join_27 rfl ?_
    refine zj_iload (pc := 28) C dX5_join_28 rfl ?_
    refine zj_iload_n (pc := 30) C dX5_join_30 rfl ?_
    refine zj_callP1 (pc := 31) C kv_X5_32 (m_X5_between hly hi14 h1) dX5_join_31 0 rfl rfl rfl rfl rfl rfl rfl ⟨0, rfl⟩ rfl rfl ?_
    refine zj_top (x' := nI (dz (D ly) o1 o2 i o1)) (by rw [jI_row]) ?_
    refine zj_iload (pc := 34) C dX5_join_34 rfl ?_
    refine zj_iadd (pc := 36) C dX5_join_36 ?_
    refine zj_top (x' := nI (dz (D ly) o1 o2 i o1 + len)) (nI_add _ _) ?_
    refine zj_istore (pc := 37) C dX5_join_37 (Nat.le_of_ble_eq_true rfl) ?_
    refine zj_aload_n (pc := 39) C dX5_join_39 rfl ?_
    refine zj_iload_n (pc := 40) C dX5_join_40 rfl ?_
    refine zj_iload (pc := 41) C dX5_join_41 rfl ?_
    refine zj_iload_n (pc := 43) C dX5_join_43 rfl ?_
    refine zj_callP1 (pc := 44) C kv_X5_32 (m_X5_between hly hi14 h2) dX5_join_44 0 rfl rfl rfl rfl rfl rfl rfl ⟨0, rfl⟩ rfl rfl ?_
    refine zj_top (x' := nI (dz (D ly) o1 o2 i o2)) (by rw [jI_row]) ?_
    refine zj_iload (pc := 47) C dX5_join_47 rfl ?_
    refine zj_iadd (pc := 49) C dX5_join_49 ?_
    refine zj_top (x' := nI (dz (D ly) o1 o2 i o2 + len)) (nI_add _ _) ?_
    refine zj_istore (pc := 50) C dX5_join_50 (Nat.le_of_ble_eq_true rfl) ?_
    refine zj_iload (pc := 52) C dX5_join_52 rfl ?_
    refine zj_aload_n (pc := 54) C dX5_join_54 rfl ?_
    refine zj_iload_n (pc := 55) C dX5_join_55 rfl ?_
    refine zj_iload (pc := 56) C dX5_join_56 rfl ?_
    refine zj_iload_n (pc := 58) C dX5_join_58 rfl ?_
    refine zj_callP1 (pc := 59) C kv_X5_32 (m_X5_between hly hi14 h2) dX5_join_59 0 rfl rfl rfl rfl rfl rfl rfl ⟨0, rfl⟩ rfl rfl ?_
    refine zj_top (x' := nI (dz (D ly) o1 o2 i o2)) (by rw [jI_row]) ?_
    refine zj_icmp_ge (pc := 62) 78 C dX5_join_62 (by decide) (fun c_62 => ?_) (fun c_62 => ?_)
    · rw [nI_leI (by omega) (by omega)] at c_62
      refine zj_iload (pc := 78) C dX5_join_78 rfl ?_
      refine zj_aload_n (pc := 80) C dX5_join_80 rfl ?_
      refine zj_iload_n (pc := 81) C dX5_join_81 rfl ?_
      refine zj_iload (pc := 82) C dX5_join_82 rfl ?_
      refine zj_iload_n (pc := 84) C dX5_join_84 rfl ?_
      refine zj_callP1 (pc := 85) C kv_X5_32 (m_X5_between hly hi14 h1) dX5_join_85 0 rfl rfl rfl rfl rfl rfl rfl ⟨0, rfl⟩ rfl rfl ?_
      refine zj_top (x' := nI (dz (D ly) o1 o2 i o1)) (by rw [jI_row]) ?_
      refine zj_icmp_ge (pc := 88) 101 C dX5_join_88 (by decide) (fun c_88 => ?_) (fun c_88 => ?_)
      · rw [nI_leI (by omega) (by omega)] at c_88
        refine zj_iinc (pc := 101) (v := nI (i + 1)) C dX5_join_101 rfl (nI_1 _) ?_
        refine zj_goto (pc := 104) (tgt := 19) C dX5_join_104 (by decide) ?_
        refine zj_keep [true, true, true, true, true, true, false, false] ?_
        refine zj_blk (bs' := [ways G a b (jI D ly o1 o2 len (i + 1))]) (by rw [← jI_no (fun y hy => jn_3 hM h1 h2 hi14 hy (by omega) (by omega))]) ?_
        exact ih (i + 1) hi14 (by omega)
      · rw [nI_leI (by omega) (by omega)] at c_88
        have hne : o1 ≠ i := by intro e; subst e; omega
        refine zj_aload_n (pc := 91) C dX5_join_91 rfl ?_
        refine zj_iload_n (pc := 92) C dX5_join_92 rfl ?_
        refine zj_iload (pc := 93) C dX5_join_93 rfl ?_
        refine zj_iload (pc := 95) C dX5_join_95 rfl ?_
        refine zj_iload_n (pc := 97) C dX5_join_97 rfl ?_
        refine zj_callF1n (pc := 98) C kv_X5_36 (m_X5_shortenFrom hly hi14 h1 (by omega) (jI_WB hB) hne) dX5_join_98 0 rfl rfl rfl rfl rfl rfl rfl ⟨0, rfl⟩ rfl rfl ?_
        refine zj_iinc (pc := 101) (v := nI (i + 1)) C dX5_join_101 rfl (nI_1 _) ?_
        refine zj_goto (pc := 104) (tgt := 19) C dX5_join_104 (by decide) ?_
        refine zj_keep [true, true, true, true, true, true, false, false] ?_
        refine zj_blk (bs' := [ways G a b (jI D ly o1 o2 len (i + 1))]) (by rw [← jI_sh (len := dz (D ly) o1 o2 i o2 + len) (o := o1) (fun y hy => jn_2 hM h1 h2 hi14 hy hl1 (by omega) (jI_ov y))]; rfl) ?_
        exact ih (i + 1) hi14 (by omega)
    · rw [nI_leI (by omega) (by omega)] at c_62
      have hne : o2 ≠ i := by intro e; subst e; omega
      refine zj_aload_n (pc := 65) C dX5_join_65 rfl ?_
      refine zj_iload_n (pc := 66) C dX5_join_66 rfl ?_
      refine zj_iload (pc := 67) C dX5_join_67 rfl ?_
      refine zj_iload (pc := 69) C dX5_join_69 rfl ?_
      refine zj_iload_n (pc := 71) C dX5_join_71 rfl ?_
      refine zj_callF1n (pc := 72) C kv_X5_36 (m_X5_shortenFrom hly hi14 h2 (by omega) (jI_WB hB) hne) dX5_join_72 0 rfl rfl rfl rfl rfl rfl rfl ⟨0, rfl⟩ rfl rfl ?_
      refine zj_goto (pc := 75) (tgt := 101) C dX5_join_75 (by decide) ?_
      refine zj_iinc (pc := 101) (v := nI (i + 1)) C dX5_join_101 rfl (nI_1 _) ?_
      refine zj_goto (pc := 104) (tgt := 19) C dX5_join_104 (by decide) ?_
      refine zj_keep [true, true, true, true, true, true, false, false] ?_
      refine zj_blk (bs' := [ways G a b (jI D ly o1 o2 len (i + 1))]) (by rw [← jI_sh (len := dz (D ly) o1 o2 i o1 + len) (o := o2) (fun y hy => jn_1 hM h1 h2 hi14 hy hl1 (by omega) (jI_ov y))]; rfl) ?_
      exact ih (i + 1) hi14 (by omega)
