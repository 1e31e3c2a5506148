set_option maxRecDepth 100000 in
set_option maxHeartbeats 4000000 in
theorem m_X2_size {l : Launch} {G : GG} {a b n : Nat} {c r : Int32} {f : Nat → Int32} : zX l G yX2_size cX2_size 1 (some .int) 0 0 0 0 [.ref a] (tbl G a b n c f r) (zF (some (.int (r))) (tbl G a b n c f r)) := by
  refine zj_startF RX2 (by decide +kernel) rfl rfl rfl (bs := [[(a, .inr (2, [.ref b, .int c, .int r]))], [(b, .inl (G.2 0, n, .inl f))]]) rfl (lo := [some (.ref a)]) rfl ?_
  intro p0 e0 s0 m0 args0 below0 meth0 c0 A0 C hr hlocks
  refine zj_aload_n (pc := 0) C dX2_size_0 rfl ?_
  refine gf_X2_2 (pc := 1) C dX2_size_1 0 rfl ?_
  refine zj_iretF C hr hlocks dX2_size_4 ?_ rfl
  exact rfl
set_option maxRecDepth 100000 in
set_option maxHeartbeats 4000000 in
theorem m_X2_has {l : Launch} {G : GG} {a b n : Nat} {c r : Int32} {f : Nat → Int32} {x : Int32} : zX l G yX2_has cX2_has 2 (some .boolean) 0 0 0 0 [.ref a, .int x] (tbl G a b n c f r) (zF (some (.int (bI (tHas r x)))) (tbl G a b n c f r)) := by
  refine zj_startF RX2 (by decide +kernel) rfl rfl rfl (bs := [[(a, .inr (2, [.ref b, .int c, .int r]))], [(b, .inl (G.2 0, n, .inl f))]]) rfl (lo := [some (.ref a), some (.int x)]) rfl ?_
  intro p0 e0 s0 m0 args0 below0 meth0 c0 A0 C hr hlocks
  refine zj_iload_n (pc := 0) C dX2_has_0 rfl ?_
  refine zj_if_lt (pc := 1) 16 C dX2_has_1 (by decide) (fun c_1 => ?_) (fun c_1 => ?_)
  · refine zj_iconst (pc := 16) (v := 0) C dX2_has_16 (by decide) ?_
    refine zj_zretF C hr hlocks dX2_has_17 ?_ rfl
    (simp [tHas, bI, c_1] <;> rfl)
  · refine zj_iload_n (pc := 4) C dX2_has_4 rfl ?_
    refine zj_aload_n (pc := 5) C dX2_has_5 rfl ?_
    refine gf_X2_2 (pc := 6) C dX2_has_6 0 rfl ?_
    refine zm_icmp_ge_0 (pc := 9) C dX2_has_9 dX2_has_12 dX2_has_13 dX2_has_16 ?_
    refine zj_zretF C hr hlocks dX2_has_17 ?_ rfl
    (simp [tHas, bI, c_1] <;> rfl)
set_option maxRecDepth 100000 in
set_option maxHeartbeats 4000000 in
theorem m_X2_isFull {l : Launch} {G : GG} {a b n : Nat} {c r : Int32} {f : Nat → Int32} : zX l G yX2_isFull cX2_isFull 1 (some .boolean) 0 0 0 0 [.ref a] (tbl G a b n c f r) (zF (some (.int (bI (tFull n c r)))) (tbl G a b n c f r)) := by
  refine zj_startF RX2 (by decide +kernel) rfl rfl rfl (bs := [[(a, .inr (2, [.ref b, .int c, .int r]))], [(b, .inl (G.2 0, n, .inl f))]]) rfl (lo := [some (.ref a)]) rfl ?_
  intro p0 e0 s0 m0 args0 below0 meth0 c0 A0 C hr hlocks
  refine zj_aload_n (pc := 0) C dX2_isFull_0 rfl ?_
  refine gf_X2_2 (pc := 1) C dX2_isFull_1 0 rfl ?_
  refine zj_iconst (pc := 4) (v := 1) C dX2_isFull_4 (by decide) ?_
  refine zj_iadd (pc := 5) C dX2_isFull_5 ?_
  refine zj_aload_n (pc := 6) C dX2_isFull_6 rfl ?_
  refine gf_X2_1 (pc := 7) C dX2_isFull_7 0 rfl ?_
  refine zj_imul (pc := 10) C dX2_isFull_10 ?_
  refine zj_aload_n (pc := 11) C dX2_isFull_11 rfl ?_
  refine gf_X2_0 (pc := 12) C dX2_isFull_12 0 rfl ?_
  refine zj_alen (pc := 15) (t0 := 0) C dX2_isFull_15 1 (by decide) rfl ?_
  refine zm_icmp_le_0 (pc := 16) C dX2_isFull_16 dX2_isFull_19 dX2_isFull_20 dX2_isFull_23 ?_
  refine zj_zretF C hr hlocks dX2_isFull_24 ?_ rfl
  exact rfl
set_option maxRecDepth 100000 in
set_option maxHeartbeats 4000000 in
theorem m_X2_at {l : Launch} {G : GG} {a b n : Nat} {c r : Int32} {f : Nat → Int32} {x y : Int32} (hn : n < 2 ^ 31) : zX l G yX2_at cX2_at 4 (some .int) 0 0 0 0 [.ref a, .int x, .int y] (tbl G a b n c f r) (zF (some (.int (tAt n c f x y))) (tbl G a b n c f r)) := by
  refine zj_startF RX2 (by decide +kernel) rfl rfl rfl (bs := [[(a, .inr (2, [.ref b, .int c, .int r]))], [(b, .inl (G.2 0, n, .inl f))]]) rfl (lo := [some (.ref a), some (.int x), some (.int y), none]) rfl ?_
  intro p0 e0 s0 m0 args0 below0 meth0 c0 A0 C hr hlocks
  refine zj_iload_n (pc := 0) C dX2_at_0 rfl ?_
  refine zj_aload_n (pc := 1) C dX2_at_1 rfl ?_
  refine gf_X2_1 (pc := 2) C dX2_at_2 0 rfl ?_
  refine zj_imul (pc := 5) C dX2_at_5 ?_
  refine zj_iload_n (pc := 6) C dX2_at_6 rfl ?_
  refine zj_iadd (pc := 7) C dX2_at_7 ?_
  refine zj_istore_n (pc := 8) C dX2_at_8 (Nat.le_of_ble_eq_true rfl) ?_
  refine zj_iload_n (pc := 9) C dX2_at_9 rfl ?_
  refine zj_if_lt (pc := 10) 31 C dX2_at_10 (by decide) (fun c_10 => ?_) (fun c_10 => ?_)
  · refine zj_iconst (pc := 31) (v := 0) C dX2_at_31 (by decide) ?_
    refine zj_iretF C hr hlocks dX2_at_32 ?_ rfl
    (simp [tAt, c_10] <;> rfl)
  · refine zj_iload_n (pc := 13) C dX2_at_13 rfl ?_
    refine zj_aload_n (pc := 14) C dX2_at_14 rfl ?_
    refine gf_X2_0 (pc := 15) C dX2_at_15 0 rfl ?_
    refine zj_alen (pc := 18) (t0 := 0) C dX2_at_18 1 (by decide) rfl ?_
    refine zj_icmp_ge (pc := 19) 31 C dX2_at_19 (by decide) (fun c_19 => ?_) (fun c_19 => ?_)
    · refine zj_iconst (pc := 31) (v := 0) C dX2_at_31 (by decide) ?_
      refine zj_iretF C hr hlocks dX2_at_32 ?_ rfl
      (simp [tAt, c_10, c_19] <;> rfl)
    · refine zj_aload_n (pc := 22) C dX2_at_22 rfl ?_
      refine gf_X2_0 (pc := 23) C dX2_at_23 0 rfl ?_
      refine zj_iload_n (pc := 26) C dX2_at_26 rfl ?_
      refine zj_iald (pc := 27) ((x * c + y).toNatClampNeg) C dX2_at_27 1 rfl (zix c_10 c_19 hn).1 (zix c_10 c_19 hn).2 hn ?_
      refine zj_goto (pc := 28) (tgt := 32) C dX2_at_28 (by decide) ?_
      refine zj_iretF C hr hlocks dX2_at_32 ?_ rfl
      (simp [tAt, c_10, c_19] <;> rfl)
set_option maxRecDepth 100000 in
set_option maxHeartbeats 4000000 in
theorem m_X2_put {l : Launch} {G : GG} {a b n : Nat} {c r : Int32} {f : Nat → Int32} {x y v : Int32} (hn : n < 2 ^ 31) : zX l G yX2_put cX2_put 5 none 0 0 0 0 [.ref a, .int x, .int y, .int v] (tbl G a b n c f r) (zF none (tbl G a b n c (tPut n c f x y v) r)) := by
  refine zj_startF RX2 (by decide +kernel) rfl rfl rfl (bs := [[(a, .inr (2, [.ref b, .int c, .int r]))], [(b, .inl (G.2 0, n, .inl f))]]) rfl (lo := [some (.ref a), some (.int x), some (.int y), some (.int v), none]) rfl ?_
  intro p0 e0 s0 m0 args0 below0 meth0 c0 A0 C hr hlocks
  refine zj_iload_n (pc := 0) C dX2_put_0 rfl ?_
  refine zj_aload_n (pc := 1) C dX2_put_1 rfl ?_
  refine gf_X2_1 (pc := 2) C dX2_put_2 0 rfl ?_
  refine zj_imul (pc := 5) C dX2_put_5 ?_
  refine zj_iload_n (pc := 6) C dX2_put_6 rfl ?_
  refine zj_iadd (pc := 7) C dX2_put_7 ?_
  refine zj_istore (pc := 8) C dX2_put_8 (Nat.le_of_ble_eq_true rfl) ?_
  refine zj_iload (pc := 10) C dX2_put_10 rfl ?_
  refine zj_if_lt (pc := 12) 33 C dX2_put_12 (by decide) (fun c_12 => ?_) (fun c_12 => ?_)
  · refine zj_vretF C hr hlocks dX2_put_33 ?_
    (simp [tPut, tbl, c_12] <;> rfl)
  · refine zj_iload (pc := 15) C dX2_put_15 rfl ?_
    refine zj_aload_n (pc := 17) C dX2_put_17 rfl ?_
    refine gf_X2_0 (pc := 18) C dX2_put_18 0 rfl ?_
    refine zj_alen (pc := 21) (t0 := 0) C dX2_put_21 1 (by decide) rfl ?_
    refine zj_icmp_ge (pc := 22) 33 C dX2_put_22 (by decide) (fun c_22 => ?_) (fun c_22 => ?_)
    · refine zj_vretF C hr hlocks dX2_put_33 ?_
      (simp [tPut, tbl, c_12, c_22] <;> rfl)
    · refine zj_aload_n (pc := 25) C dX2_put_25 rfl ?_
      refine gf_X2_0 (pc := 26) C dX2_put_26 0 rfl ?_
      refine zj_iload (pc := 29) C dX2_put_29 rfl ?_
      refine zj_iload_n (pc := 31) C dX2_put_31 rfl ?_
      refine zj_iast (pc := 32) ((x * c + y).toNatClampNeg) C dX2_put_32 1 rfl (zix c_12 c_22 hn).1 (zix c_12 c_22 hn).2 hn ?_
      refine zj_vretF C hr hlocks dX2_put_33 ?_
      (simp [tPut, tbl, c_12, c_22] <;> rfl)
set_option maxRecDepth 100000 in
set_option maxHeartbeats 4000000 in
theorem m_X2_add {l : Launch} {G : GG} {a b n : Nat} {c r : Int32} {f : Nat → Int32} : zX l G yX2_add cX2_add 1 (some .int) 1 20 0 0 [.ref a] (tbl G a b n c f r) (zF (some (.int (tAdd n c r))) (tbl G a b n c f (tAdd' n c r))) := by
  refine zj_startF RX2 (by decide +kernel) rfl rfl rfl (bs := [[(a, .inr (2, [.ref b, .int c, .int r]))], [(b, .inl (G.2 0, n, .inl f))]]) rfl (lo := [some (.ref a)]) rfl ?_
  intro p0 e0 s0 m0 args0 below0 meth0 c0 A0 C hr hlocks
  refine zj_aload_n (pc := 0) C dX2_add_0 rfl ?_
  refine zj_callPA (pc := 1) C kv_X2_28 (m_X2_isFull) dX2_add_1 [0, 1] [] rfl rfl rfl rfl rfl rfl rfl rfl ⟨0, rfl⟩ rfl rfl ?_
  refine zj_ifb_eq (pc := 4) 10 C dX2_add_4 (by decide) (fun c_4 => ?_) (fun c_4 => ?_)
  · refine zj_aload_n (pc := 10) C dX2_add_10 rfl ?_
    refine zj_dup (pc := 11) C dX2_add_11 rfl ?_
    refine gf_X2_2 (pc := 12) C dX2_add_12 0 rfl ?_
    refine zj_iconst (pc := 15) (v := 1) C dX2_add_15 (by decide) ?_
    refine zj_iadd (pc := 16) C dX2_add_16 ?_
    refine pf_X2_2 (pc := 17) C dX2_add_17 0 rfl ?_
    refine zj_aload_n (pc := 20) C dX2_add_20 rfl ?_
    refine gf_X2_2 (pc := 21) C dX2_add_21 0 rfl ?_
    refine zj_iconst (pc := 24) (v := 1) C dX2_add_24 (by decide) ?_
    refine zj_isub (pc := 25) C dX2_add_25 ?_
    refine zj_iretF C hr hlocks dX2_add_26 ?_ (by simp [tbl, tAdd', c_4])
    (simp [tAdd, c_4] <;> rfl)
  · refine zj_bipush (pc := 7) (v := (-5)) C dX2_add_7 (by decide) ?_
    refine zj_iretF C hr hlocks dX2_add_9 ?_ (by simp [tbl, tAdd', c_4])
    (simp [tAdd, c_4] <;> rfl)
/-- rows that move up -/
def tShift (f : Nat → Int32) (cn i b : Nat) : Nat → Int32 := fun k => if i * cn ≤ k ∧ k < b then f (k + cn) else f k
theorem tShift_0 {f : Nat → Int32} {cn i : Nat} : tShift f cn i (i * cn) = f := by
  funext k
  unfold tShift
  rw [if_neg (by omega)]
theorem tShift_s {f : Nat → Int32} {cn i b : Nat} (h : i * cn ≤ b) : upd (tShift f cn i b) b (f (b + cn)) = tShift f cn i (b + 1) := by
  funext k
  by_cases hk : k = b
  · subst hk
    rw [pk_us]
    unfold tShift
    rw [if_pos (by omega)]
  · rw [pk_un hk]
    unfold tShift
    by_cases h2 : i * cn ≤ k ∧ k < b
    · rw [if_pos h2, if_pos (by omega)]
    · rw [if_neg h2, if_neg (by omega)]
theorem tAt_n {n cn i j : Nat} {f : Nat → Int32} (h : i * cn + j < n) (hn : n < 2 ^ 31) : tAt n (nI cn) f (nI i) (nI j) = f (i * cn + j) := by
  have e0 : nI i * nI cn + nI j = nI (i * cn + j) := by rw [pk_mul, nI_add]
  unfold tAt
  rw [e0, if_neg (nI_pos (by omega)), if_neg (nI_ge h hn), nI_clamp (by omega)]
theorem tPut_n {n cn i j : Nat} {f : Nat → Int32} {v : Int32} (h : i * cn + j < n) (hn : n < 2 ^ 31) : tPut n (nI cn) f (nI i) (nI j) v = upd f (i * cn + j) v := by
  have e0 : nI i * nI cn + nI j = nI (i * cn + j) := by rw [pk_mul, nI_add]
  unfold tPut
  rw [e0, if_neg (nI_pos (by omega)), if_neg (nI_ge h hn), nI_clamp (by omega)]

theorem zlt {a b : Nat} (h : ¬ nI b ≤ nI a) (ha : a < 2 ^ 31) : a < b := Nat.lt_of_not_le fun hle => h (nI_le hle ha)
theorem zle {a b : Nat} (h : nI b ≤ nI a) (hb : b < 2 ^ 31) : b ≤ a := Nat.le_of_not_lt fun hlt => nI_ge hlt hb h
theorem tShift_at {n cn i j b rn : Nat} {f : Nat → Int32} (hb : i < b) (hj : j < cn) (hr : b < rn) (h : rn * cn ≤ n) (hn : n < 2 ^ 31) : tAt n (nI cn) (tShift f cn i ((b - 1) * cn + j)) (nI b) (nI j) = f (b * cn + j) := by
  have e1 : b * cn + j < n := by
    have := Nat.mul_le_mul_right cn (show b + 1 ≤ rn from hr)
    rw [Nat.add_mul] at this
    omega
  rw [tAt_n e1 hn]
  unfold tShift
  rw [if_neg]
  have : (b - 1) * cn ≤ b * cn := Nat.mul_le_mul_right cn (by omega)
  omega
theorem tShift_put {n cn i j b rn : Nat} {f : Nat → Int32} (hb : i < b) (hj : j < cn) (hr : b < rn) (h : rn * cn ≤ n) (hn : n < 2 ^ 31) : tPut n (nI cn) (tShift f cn i ((b - 1) * cn + j)) (nI b - 1) (nI j) (tAt n (nI cn) (tShift f cn i ((b - 1) * cn + j)) (nI b) (nI j)) = tShift f cn i ((b - 1) * cn + (j + 1)) := by
  rw [tShift_at hb hj hr h hn]
  have e0 : nI b - 1 = nI (b - 1) := pk_sub (a := b) (b := 1) (by omega)
  have e1 : (b - 1) * cn + j < n := by
    have := Nat.mul_le_mul_right cn (show b - 1 + 1 ≤ rn by omega)
    rw [Nat.add_mul] at this
    omega
  rw [e0, tPut_n e1 hn]
  have e2 : b * cn + j = (b - 1) * cn + j + cn := by
    have := Nat.add_mul (b - 1) 1 cn
    rw [show b - 1 + 1 = b by omega] at this
    omega
  rw [e2]
  exact tShift_s (by
    have := Nat.mul_le_mul_right cn (show i ≤ b - 1 by omega)
    omega)
theorem tHas_n {i r : Nat} (hi : i < 2 ^ 31) (hr : r < 2 ^ 31) : tHas (nI r) (nI i) = decide (i < r) := by
  unfold tHas
  by_cases h : i < r
  · simp [h, nI_pos hi, nI_ge h hr]
  · simp [h, nI_le (Nat.not_lt.mp h) hi]
theorem tHas_neg {r x : Int32} (h : x < 0) : tHas r x = false := by simp [tHas, h]

set_option maxRecDepth 100000 in
set_option maxHeartbeats 4000000 in
theorem m_X2_remove {l : Launch} {G : GG} {a b n cn rn i : Nat} {f : Nat → Int32} (hi : i < rn) (h : rn * cn ≤ n) (hn : n < 2 ^ 31) (hc : cn < 2 ^ 31) (hrn : rn < 2 ^ 31) : zX l G yX2_remove cX2_remove 4 none 1 24 0 0 [.ref a, .int (nI i)] (tbl G a b n (nI cn) f (nI rn)) (zF none (tbl G a b n (nI cn) (tShift f cn i ((rn - 1) * cn)) (nI (rn - 1)))) := by
  refine zj_startF RX2 (by decide +kernel) rfl rfl rfl (bs := [[(a, .inr (2, [.ref b, .int (nI cn), .int (nI rn)]))], [(b, .inl (G.2 0, n, .inl f))]]) rfl (lo := [some (.ref a), some (.int (nI i)), none, none]) rfl ?_
  intro p0 e0 s0 m0 args0 below0 meth0 c0 A0 C hr hlocks
  refine zj_aload_n (pc := 0) C dX2_remove_0 rfl ?_
  refine zj_iload_n (pc := 1) C dX2_remove_1 rfl ?_
  refine zj_callPA (pc := 2) C kv_X2_32 (m_X2_has) dX2_remove_2 [0, 1] [] rfl rfl rfl rfl rfl rfl rfl rfl ⟨0, rfl⟩ rfl rfl ?_
  refine zj_ifb_ne (pc := 5) 9 C dX2_remove_5 (by decide) (fun c_5 => ?_) (fun c_5 => absurd c_5 (by rw [tHas_n (by omega) hrn]; simp [hi]))
  refine zj_iload_n (pc := 9) C dX2_remove_9 rfl ?_
  refine zj_iconst (pc := 10) (v := 1) C dX2_remove_10 (by decide) ?_
  refine zj_iadd (pc := 11) C dX2_remove_11 ?_
  refine zj_istore_n (pc := 12) C dX2_remove_12 (Nat.le_of_ble_eq_true rfl) ?_
  refine zj_keep [true, true, true, false] ?_
  refine zj_eq (bs' := [[(a, .inr (2, [.ref b, .int (nI cn), .int (nI rn)]))], [(b, .inl (G.2 0, n, .inl (tShift f cn i ((i + 1 - 1) * cn))))]]) (lo' := [some (.ref a), some (.int (nI i)), some (.int (nI (i + 1))), none]) (by rw [Nat.add_sub_cancel, tShift_0]) (by rw [← nI_1]; rfl) rfl ?_
  refine zj_loopW (σ := Nat) (fun x => i + 1 ≤ x ∧ x ≤ rn) (fun x => rn - x) (fun x => [[(a, .inr (2, [.ref b, .int (nI cn), .int (nI rn)]))], [(b, .inl (G.2 0, n, .inl (tShift f cn i ((x - 1) * cn))))]]) (fun x => [some (.ref a), some (.int (nI i)), some (.int (nI x)), none]) ?_ (i + 1) ⟨Nat.le_refl _, hi⟩
  intro b1 hb ih
  obtain ⟨hb1, hb2⟩ := hb
  refine zj_iload_n (pc := 13) C dX2_remove_13 rfl ?_
  refine zj_aload_n (pc := 14) C dX2_remove_14 rfl ?_
  refine gf_X2_2 (pc := 15) C dX2_remove_15 0 rfl ?_
  refine zj_icmp_ge (pc := 18) 57 C dX2_remove_18 (by decide) (fun c_18 => ?_) (fun c_18 => ?_)
  · refine zj_aload_n (pc := 57) C dX2_remove_57 rfl ?_
    refine zj_dup (pc := 58) C dX2_remove_58 rfl ?_
    refine gf_X2_2 (pc := 59) C dX2_remove_59 0 rfl ?_
    refine zj_iconst (pc := 62) (v := 1) C dX2_remove_62 (by decide) ?_
    refine zj_isub (pc := 63) C dX2_remove_63 ?_
    refine pf_X2_2 (pc := 64) C dX2_remove_64 0 rfl ?_
    refine zj_vretF C hr hlocks dX2_remove_67 ?_
    exact (by rw [show b1 = rn from Nat.le_antisymm hb2 (Nat.not_lt.mp (fun hlt => nI_ge hlt hrn c_18))]; exact congrArg (fun q => tbl G a b n (nI cn) (tShift f cn i ((rn - 1) * cn)) q) (pk_sub (a := rn) (b := 1) (by omega)))
  · have hbr : b1 < rn := zlt c_18 (by omega)
    refine zj_iconst (pc := 21) (v := 0) C dX2_remove_21 (by decide) ?_
    refine zj_istore_n (pc := 22) C dX2_remove_22 (Nat.le_of_ble_eq_true rfl) ?_
    refine zj_keep [true, true, true, true] ?_
    refine zj_loopW (σ := Nat) (fun x => x ≤ cn) (fun x => cn - x) (fun x => [[(a, .inr (2, [.ref b, .int (nI cn), .int (nI rn)]))], [(b, .inl (G.2 0, n, .inl (tShift f cn i ((b1 - 1) * cn + x))))]]) (fun x => [some (.ref a), some (.int (nI i)), some (.int (nI b1)), some (.int (nI x))]) ?_ 0 (Nat.zero_le _)
    intro j hj ihj
    refine zj_iload_n (pc := 23) C dX2_remove_23 rfl ?_
    refine zj_aload_n (pc := 24) C dX2_remove_24 rfl ?_
    refine gf_X2_1 (pc := 25) C dX2_remove_25 0 rfl ?_
    refine zj_icmp_ge (pc := 28) 51 C dX2_remove_28 (by decide) (fun c_28 => ?_) (fun c_28 => ?_)
    · have hjc : j = cn := Nat.le_antisymm hj (zle c_28 hc)
      refine zj_iinc (pc := 51) (v := nI (b1 + 1)) C dX2_remove_51 rfl (nI_1 _) ?_
      refine zj_goto (pc := 54) (tgt := 13) C dX2_remove_54 (by decide) ?_
      refine zj_keep [true, true, true, false] ?_
      refine zj_eq (bs' := [[(a, .inr (2, [.ref b, .int (nI cn), .int (nI rn)]))], [(b, .inl (G.2 0, n, .inl (tShift f cn i ((b1 + 1 - 1) * cn))))]]) ?_ rfl rfl (ih (b1 + 1) ⟨by omega, by omega⟩ (by omega))
      have e9 : (b1 - 1) * cn + j = (b1 + 1 - 1) * cn := by rw [hjc, show b1 + 1 - 1 = b1 - 1 + 1 by omega, Nat.add_mul, Nat.one_mul]
      rw [e9]
    · have hjc : j < cn := zlt c_28 (by omega)
      refine zj_aload_n (pc := 31) C dX2_remove_31 rfl ?_
      refine zj_iload_n (pc := 32) C dX2_remove_32 rfl ?_
      refine zj_iconst (pc := 33) (v := 1) C dX2_remove_33 (by decide) ?_
      refine zj_isub (pc := 34) C dX2_remove_34 ?_
      refine zj_iload_n (pc := 35) C dX2_remove_35 rfl ?_
      refine zj_aload_n (pc := 36) C dX2_remove_36 rfl ?_
      refine zj_iload_n (pc := 37) C dX2_remove_37 rfl ?_
      refine zj_iload_n (pc := 38) C dX2_remove_38 rfl ?_
      refine zj_callPA (pc := 39) C kv_X2_36 (m_X2_at hn) dX2_remove_39 [0, 1] [] rfl rfl rfl rfl rfl rfl rfl rfl ⟨0, rfl⟩ rfl rfl ?_
      refine zj_callA (pc := 42) C kv_X2_39 (m_X2_put hn) dX2_remove_42 [0, 1] [] rfl rfl rfl rfl rfl rfl rfl rfl ⟨0, rfl⟩ rfl rfl (fun v w1 hq => ?_)
      obtain ⟨rfl, rfl⟩ := hq
      refine zj_blk (bs' := [[(a, .inr (2, [.ref b, .int (nI cn), .int (nI rn)]))], [(b, .inl (G.2 0, n, .inl (tPut n (nI cn) (tShift f cn i ((b1 - 1) * cn + j)) (nI b1 - 1) (nI j) (tAt n (nI cn) (tShift f cn i ((b1 - 1) * cn + j)) (nI b1) (nI j)))))]]) rfl ?_
      refine zj_iinc (pc := 45) (v := nI (j + 1)) C dX2_remove_45 rfl (nI_1 _) ?_
      refine zj_goto (pc := 48) (tgt := 23) C dX2_remove_48 (by decide) ?_
      refine zj_eq (bs' := [[(a, .inr (2, [.ref b, .int (nI cn), .int (nI rn)]))], [(b, .inl (G.2 0, n, .inl (tShift f cn i ((b1 - 1) * cn + (j + 1)))))]]) ?_ rfl rfl (ihj (j + 1) (by omega) (by omega))
      rw [← tShift_put hb1 hjc hbr h hn]
set_option maxRecDepth 100000 in
set_option maxHeartbeats 4000000 in
theorem m_X2_copyFrom {l : Launch} {G : GG} {a b a' b' n : Nat} {c r c' r' : Int32} {f g : Nat → Int32} (hn : n < 2 ^ 31) : zX l G yX2_copyFrom cX2_copyFrom 2 none 1 26 0 0 [.ref a, .ref a'] (tbl G a b n c f r ++ tbl G a' b' n c' g r') (zF none (tbl G a b n c g r' ++ tbl G a' b' n c' g r')) := by
  refine zj_startF RX2 (by decide +kernel) rfl rfl rfl (bs := [[(a, .inr (2, [.ref b, .int c, .int r]))], [(b, .inl (G.2 0, n, .inl f))], [(a', .inr (2, [.ref b', .int c', .int r']))], [(b', .inl (G.2 0, n, .inl g))]]) rfl (lo := [some (.ref a), some (.ref a')]) rfl ?_
  intro p0 e0 s0 m0 args0 below0 meth0 c0 A0 C hr hlocks
  refine zj_aload_n (pc := 0) C dX2_copyFrom_0 rfl ?_
  refine gf_X2_0 (pc := 1) C dX2_copyFrom_1 2 rfl ?_
  refine zj_iconst (pc := 4) (v := 0) C dX2_copyFrom_4 (by decide) ?_
  refine zj_aload_n (pc := 5) C dX2_copyFrom_5 rfl ?_
  refine gf_X2_0 (pc := 6) C dX2_copyFrom_6 0 rfl ?_
  refine zj_iconst (pc := 9) (v := 0) C dX2_copyFrom_9 (by decide) ?_
  refine zj_aload_n (pc := 10) C dX2_copyFrom_10 rfl ?_
  refine gf_X2_0 (pc := 11) C dX2_copyFrom_11 2 rfl ?_
  refine zj_alen (pc := 14) (t0 := 0) C dX2_copyFrom_14 3 (by decide) rfl ?_
  refine zj_aload_n (pc := 15) C dX2_copyFrom_15 rfl ?_
  refine gf_X2_0 (pc := 16) C dX2_copyFrom_16 0 rfl ?_
  refine zj_alen (pc := 19) (t0 := 0) C dX2_copyFrom_19 1 (by decide) rfl ?_
  refine zj_mmin (pc := 20) C aq_215 aq_216 aq_29 aq_217 dX2_copyFrom_20 (zn_and rfl) (Nat.le_of_ble_eq_true rfl) (zn_and rfl) rfl ?_
  refine zj_copyi (pc := 23) (n) C aq_218 aq_220 aq_219 aq_34 dX2_copyFrom_23 (zn_and rfl) (Nat.le_of_ble_eq_true rfl) rfl 3 1 rfl rfl rfl rfl (by simp) (Nat.le_refl n) (Nat.le_refl n) hn ?_
  refine zj_row 1 g rfl (fun k hk => pk_cpy_in (Nat.zero_le _) (by omega) |>.trans (congrArg g (by omega))) ?_
  refine zj_aload_n (pc := 26) C dX2_copyFrom_26 rfl ?_
  refine zj_aload_n (pc := 27) C dX2_copyFrom_27 rfl ?_
  refine gf_X2_2 (pc := 28) C dX2_copyFrom_28 2 rfl ?_
  refine pf_X2_2 (pc := 31) C dX2_copyFrom_31 0 rfl ?_
  refine zj_vretF C hr hlocks dX2_copyFrom_34 ?_
  exact rfl
