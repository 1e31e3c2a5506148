theorem wy_at {w : Nat → Nat} {d x y : Nat} : w (196 * d + 14 * x + y) = w (196 * d + (14 * x + y)) := by rw [Nat.add_assoc]
theorem fw_st {w E : Nat → Nat} {d k : Nat} (h : k < 2744) : updN (blk w d (mxF (fwN E (k / 196)) (k / 196) (k % 196))) (196 * d + 14 * (k / 14 % 14) + k % 14) (min (fwN E (k / 196) (14 * (k / 14 % 14) + k % 14)) (fwN E (k / 196) (14 * (k / 14 % 14) + k / 196) + fwN E (k / 196) (14 * (k / 196) + k % 14))) = blk w d (mxF (fwN E ((k + 1) / 196)) ((k + 1) / 196) ((k + 1) % 196)) := by
  rw [← mx_n, ← mx_s, ← blk_upd (by omega)]
  have e : k % 196 = 14 * (k / 14 % 14) + k % 14 := by omega
  rw [Nat.add_assoc, ← e]
  congr 1
  unfold fwF
  rw [show k % 196 / 14 = k / 14 % 14 by omega, show k % 196 % 14 = k % 14 by omega]
theorem bk_at {w M : Nat → Nat} {d x y : Nat} (hx : x < 14) (hy : y < 14) : blk w d M (196 * d + 14 * x + y) = M (14 * x + y) := by
  rw [Nat.add_assoc]
  exact blk_at (by omega)
theorem bk_0 {w M : Nat → Nat} {x y : Nat} (hx : x < 14) (hy : y < 14) : blk w 0 M (196 * 0 + 14 * x + y) = M (14 * x + y) := bk_at hx hy
theorem jnE_t {g : Nat → Nat} {p : Nat → Bool} {M : Nat → Nat} {i : Nat} (h : p i = true) : jnE g p M (i + 1) = jnM (jnE g p M i) (lnC g i 0) (lnC g i 1) (lnC g i 2) := if_pos h
theorem jnE_f {g : Nat → Nat} {p : Nat → Bool} {M : Nat → Nat} {i : Nat} (h : p i = false) : jnE g p M (i + 1) = jnE g p M i := if_neg (by rw [h]; decide)
def fwE (g : Nat → Nat) (d : Nat) : Nat → Nat := jnE g (pL g d) (in0 g d) (kL g)
def dsF (g : Nat → Nat) (d : Nat) : Nat → Nat := fun j => dst g d (j / 14) (j % 14)
theorem fw_0 {w E : Nat → Nat} {d : Nat} : blk w d E = blk w d (mxF (fwN E (0 / 196)) (0 / 196) (0 % 196)) := blk_c fun k hk => (if_neg (by omega) : mxF (fwN E 0) 0 0 k = _).symm
theorem fw_cur {W : Nat → Nat} {v k : Nat} : mxF W v (k % 196) (14 * (k / 14 % 14) + k % 14) = W (14 * (k / 14 % 14) + k % 14) := if_neg (by omega)
theorem fwE_1M {g : Nat → Nat} (hl : lok g (kL g)) {d v : Nat} (k : Nat) : fwN (fwE g d) v k ≤ 1000000 := Nat.le_trans (fwN_le v) (jnE_1M (fun k => in0_le) hl k)
theorem fw_end {g : Nat → Nat} (hl : lok g (kL g)) {w : Nat → Nat} {d o : Nat} (hd : d < 5) : blk w o (mxF (fwN (fwE g d) (2744 / 196)) (2744 / 196) (2744 % 196)) = blk w o (dsF g d) := blk_c fun k hk => by
  have e : mxF (fwN (fwE g d) 14) 14 0 k = fwN (fwE g d) 14 k := if_neg (by omega)
  show mxF (fwN (fwE g d) 14) 14 0 k = dst g d (k / 14) (k % 14)
  rw [e]
  have := fw_dst hl hd (x := k / 14) (y := k % 14) (by omega) (by omega)
  rw [show 14 * (k / 14) + k % 14 = k by omega] at this
  exact this
def inK (M : Nat → Nat) (w : Nat → Nat) (j : Nat) : Nat → Nat := fun k => if k < j then M k else w k
theorem inK_s {M w : Nat → Nat} {j : Nat} : updN (inK M w j) j (M j) = inK M w (j + 1) := by
  funext k
  unfold updN inK
  by_cases h : k = j
  · subst h; rw [if_pos rfl, if_pos (by omega)]
  · rw [if_neg h]
    by_cases h2 : k < j
    · rw [if_pos h2, if_pos (by omega)]
    · rw [if_neg h2, if_neg (by omega)]
theorem blk_k0 {w M : Nat → Nat} {d : Nat} : blk w d (inK M (fun k => w (196 * d + k)) 0) = w := by
  funext k
  unfold blk inK
  split
  · rw [if_neg (by omega)]
    show w (196 * d + (k - 196 * d)) = w k
    rw [show 196 * d + (k - 196 * d) = k by omega]
  · rfl
theorem blk_k {w M : Nat → Nat} {d : Nat} : blk w d (inK M (fun k => w (196 * d + k)) 196) = blk w d M := blk_c fun k hk => if_pos hk

set_option maxRecDepth 100000 in
set_option maxHeartbeats 4000000 in
theorem m_X7_isIn {l : Launch} {G : GG} {m : Nat → Nat} {g ga gh : Nat → Nat} {kn : Nat} {gk : Nat → Nat} {kp : Bool} {tx : Nat → Nat} {ln : Nat} {wy wa tt rr we : Nat → Nat} {sp : Nat} {wr : Bool} {er : Int32} {x d : Nat} (hx : x < 14) (hd : d < 4) : zX l G yX7_isIn cX7_isIn 3 (some .boolean) 0 0 0 0 [.ref (m 0), .int (nI (x)), .int (nI (d))] (mB G m g ga gh kn gk kp tx ln (izV g) wy wa tt rr we sp wr er).flatten (zF (some (.int (bI (inn g d x)))) (mB G m g ga gh kn gk kp tx ln (izV g) wy wa tt rr we sp wr er).flatten) := by
  refine zj_startF RX7 (by decide +kernel) rfl rfl rfl (bs := (mB G m g ga gh kn gk kp tx ln (izV g) wy wa tt rr we sp wr er)) rfl (lo := [some (.ref (m 0)), some (.int (nI (x))), some (.int (nI (d)))]) rfl ?_
  intro p0 e0 s0 m0 args0 below0 meth0 c0 A0 C hr hlocks
  have hlt := izV_lt g x
  refine zq_mrg 10 [] (nI (izV g x / 2 ^ d % 2)) ?_ (fun kk => ?_)
  · refine zj_iconst (pc := 10) (v := nI 1) C dX7_isIn_10 (by decide) ?_
    refine zq_mrg 19 [] (bI (decide (izV g x / 2 ^ d % 2 = 1))) ?_ (fun kk => ?_)
    · exact zj_zretF C hr hlocks dX7_isIn_19 (congrArg bI (by rw [← izV_bit hd]; rfl)) rfl
    · refine zq_icmp_ne (pc := 11) 18 C dX7_isIn_11 (by decide) (by omega) (by omega) (fun c_11 => ?_) (fun c_11 => ?_)
      · refine zj_iconst (pc := 18) (v := nI 0) C dX7_isIn_18 (by decide) ?_
        exact zj_top (x' := bI (decide (izV g x / 2 ^ d % 2 = 1))) (zq_f (by first | rfl | (simp [c_11]; done) | (simp [c_11]; omega) | omega | (split <;> first | rfl | omega))) kk
      · refine zj_iconst (pc := 14) (v := nI 1) C dX7_isIn_14 (by decide) ?_
        refine zj_goto (pc := 15) (tgt := 19) C dX7_isIn_15 (by decide) ?_
        exact zj_top (x' := bI (decide (izV g x / 2 ^ d % 2 = 1))) (zq_t (by first | rfl | (simp [c_11]; done) | (simp [c_11]; omega) | omega | (split <;> first | rfl | omega))) kk
  · refine zj_aload_n (pc := 0) C dX7_isIn_0 rfl ?_
    refine gf_X7_8 (pc := 1) C dX7_isIn_1 0 rfl ?_
    refine zj_iload_n (pc := 4) C dX7_isIn_4 rfl ?_
    refine zq_iald (pc := 5) C dX7_isIn_5 6 rfl (by omega) (by decide) ?_
    refine zj_iload_n (pc := 6) C dX7_isIn_6 rfl ?_
    refine zj_ishr (pc := 7) C dX7_isIn_7 ?_
    refine zj_iconst (pc := 8) (v := nI 1) C dX7_isIn_8 (by decide) ?_
    refine zj_iand (pc := 9) C dX7_isIn_9 ?_
    exact zj_top (x' := nI (izV g x / 2 ^ d % 2)) (nI_bit (by omega) (by omega)) kk
set_option maxRecDepth 100000 in
set_option maxHeartbeats 4000000 in
theorem m_X7_isGate {l : Launch} {G : GG} {m : Nat → Nat} {g ga gh : Nat → Nat} {kn : Nat} {gk : Nat → Nat} {kp : Bool} {tx : Nat → Nat} {ln : Nat} {wy wa tt rr we : Nat → Nat} {sp : Nat} {wr : Bool} {er : Int32} {x d : Nat} (hx : x < 14) (hd : d < 4) : zX l G yX7_isGate cX7_isGate 3 (some .boolean) 1 22 0 0 [.ref (m 0), .int (nI (x)), .int (nI (d))] (mB G m g ga gh kn gk kp tx ln (izV g) wy wa tt rr we sp wr er).flatten (zF (some (.int (bI (decide (0 < d) && (inn g d x && inn g 0 x))))) (mB G m g ga gh kn gk kp tx ln (izV g) wy wa tt rr we sp wr er).flatten) := by
  refine zj_startF RX7 (by decide +kernel) rfl rfl rfl (bs := (mB G m g ga gh kn gk kp tx ln (izV g) wy wa tt rr we sp wr er)) rfl (lo := [some (.ref (m 0)), some (.int (nI (x))), some (.int (nI (d)))]) rfl ?_
  intro p0 e0 s0 m0 args0 below0 meth0 c0 A0 C hr hlocks
  refine zq_mrg 27 [] (bI (decide (0 < d) && (inn g d x && inn g 0 x))) ?_ (fun kk => ?_)
  · exact zj_zretF C hr hlocks dX7_isGate_27 rfl rfl
  · refine zj_iload_n (pc := 0) C dX7_isGate_0 rfl ?_
    refine zq_if_le (pc := 1) 26 C dX7_isGate_1 (by decide) (by omega) (fun c_1 => ?_) (fun c_1 => ?_)
    · refine zj_iconst (pc := 26) (v := nI 0) C dX7_isGate_26 (by decide) ?_
      exact zj_top (x' := bI (decide (0 < d) && (inn g d x && inn g 0 x))) (zq_f (by first | rfl | (simp [c_1]; done) | (simp [c_1]; omega) | omega | (split <;> first | rfl | omega))) kk
    · refine zj_aload_n (pc := 4) C dX7_isGate_4 rfl ?_
      refine zj_iload_n (pc := 5) C dX7_isGate_5 rfl ?_
      refine zj_iload_n (pc := 6) C dX7_isGate_6 rfl ?_
      refine zq_callP (pc := 7) C kv_X7_63 (m_X7_isIn (by omega) (by omega)) dX7_isGate_7 rfl rfl rfl rfl rfl rfl ⟨0, rfl⟩ rfl rfl ?_
      refine zj_ifb_eq (pc := 10) 26 C dX7_isGate_10 (by decide) (fun c_10 => ?_) (fun c_10 => ?_)
      · refine zj_iconst (pc := 26) (v := nI 0) C dX7_isGate_26 (by decide) ?_
        exact zj_top (x' := bI (decide (0 < d) && (inn g d x && inn g 0 x))) (zq_f (by first | rfl | (simp [c_1, c_10]; done) | (simp [c_1, c_10]; omega) | omega | (split <;> first | rfl | omega))) kk
      · refine zj_aload_n (pc := 13) C dX7_isGate_13 rfl ?_
        refine zj_iload_n (pc := 14) C dX7_isGate_14 rfl ?_
        refine zj_iconst (pc := 15) (v := nI 0) C dX7_isGate_15 (by decide) ?_
        refine zq_callP (pc := 16) C kv_X7_63 (m_X7_isIn (by omega) (by omega)) dX7_isGate_16 rfl rfl rfl rfl rfl rfl ⟨0, rfl⟩ rfl rfl ?_
        refine zj_ifb_eq (pc := 19) 26 C dX7_isGate_19 (by decide) (fun c_19 => ?_) (fun c_19 => ?_)
        · refine zj_iconst (pc := 26) (v := nI 0) C dX7_isGate_26 (by decide) ?_
          exact zj_top (x' := bI (decide (0 < d) && (inn g d x && inn g 0 x))) (zq_f (by first | rfl | (simp [c_1, c_10, c_19]; done) | (simp [c_1, c_10, c_19]; omega) | omega | (split <;> first | rfl | omega))) kk
        · refine zj_iconst (pc := 22) (v := nI 1) C dX7_isGate_22 (by decide) ?_
          refine zj_goto (pc := 23) (tgt := 27) C dX7_isGate_23 (by decide) ?_
          exact zj_top (x' := bI (decide (0 < d) && (inn g d x && inn g 0 x))) (zq_t (by first | rfl | (simp [c_1, c_10, c_19]; done) | (simp [c_1, c_10, c_19]; omega) | omega | (split <;> first | rfl | omega))) kk
set_option maxRecDepth 100000 in
set_option maxHeartbeats 4000000 in
theorem m_X7_way {l : Launch} {G : GG} {m : Nat → Nat} {g ga gh : Nat → Nat} {kn : Nat} {gk : Nat → Nat} {kp : Bool} {tx : Nat → Nat} {ln : Nat} {iz wy wa tt rr we : Nat → Nat} {sp : Nat} {wr : Bool} {er : Int32} {d x y : Nat} (hd : d < 4) (hx : x < 14) (hy : y < 14) : zX l G yX7_way cX7_way 4 (some .int) 1 22 0 0 [.ref (m 0), .int (nI (d)), .int (nI (x)), .int (nI (y))] (mB G m g ga gh kn gk kp tx ln iz wy wa tt rr we sp wr er).flatten (zF (some (.int (nI (wy (196 * d + 14 * x + y))))) (mB G m g ga gh kn gk kp tx ln iz wy wa tt rr we sp wr er).flatten) := by
  refine zj_startF RX7 (by decide +kernel) rfl rfl rfl (bs := (mB G m g ga gh kn gk kp tx ln iz wy wa tt rr we sp wr er)) rfl (lo := [some (.ref (m 0)), some (.int (nI (d))), some (.int (nI (x))), some (.int (nI (y)))]) rfl ?_
  intro p0 e0 s0 m0 args0 below0 meth0 c0 A0 C hr hlocks
  refine zj_aload_n (pc := 0) C dX7_way_0 rfl ?_
  refine gf_X7_9 (pc := 1) C dX7_way_1 0 rfl ?_
  refine zj_iload_n (pc := 4) C dX7_way_4 rfl ?_
  refine zj_iload_n (pc := 5) C dX7_way_5 rfl ?_
  refine zj_iload_n (pc := 6) C dX7_way_6 rfl ?_
  refine zj_callSF (pc := 7) C kv_X7_67 (m_X7_at) dX7_way_7 rfl rfl rfl rfl rfl rfl ?_
  refine zq_iald (pc := 10) C dX7_way_10 7 rfl (by omega) (by decide) ?_
  exact zj_iretF C hr hlocks dX7_way_11 rfl rfl
set_option maxRecDepth 100000 in
set_option maxHeartbeats 4000000 in
theorem m_X7_wayV {l : Launch} {G : GG} {m : Nat → Nat} {g ga gh : Nat → Nat} {kn : Nat} {gk : Nat → Nat} {kp : Bool} {tx : Nat → Nat} {ln : Nat} {iz wa tt rr we : Nat → Nat} {sp : Nat} {wr : Bool} {er : Int32} {d x y : Nat} (hd : d < 4) (hx : x < 14) (hy : y < 14) : zX l G yX7_way cX7_way 4 (some .int) 1 22 0 0 [.ref (m 0), .int (nI (d)), .int (nI (x)), .int (nI (y))] (mB G m g ga gh kn gk kp tx ln iz (wyV g) wa tt rr we sp wr er).flatten (zF (some (.int (nI (dst g d x y)))) (mB G m g ga gh kn gk kp tx ln iz (wyV g) wa tt rr we sp wr er).flatten) := by
  refine zj_startF RX7 (by decide +kernel) rfl rfl rfl (bs := (mB G m g ga gh kn gk kp tx ln iz (wyV g) wa tt rr we sp wr er)) rfl (lo := [some (.ref (m 0)), some (.int (nI (d))), some (.int (nI (x))), some (.int (nI (y)))]) rfl ?_
  intro p0 e0 s0 m0 args0 below0 meth0 c0 A0 C hr hlocks
  refine zj_aload_n (pc := 0) C dX7_way_0 rfl ?_
  refine gf_X7_9 (pc := 1) C dX7_way_1 0 rfl ?_
  refine zj_iload_n (pc := 4) C dX7_way_4 rfl ?_
  refine zj_iload_n (pc := 5) C dX7_way_5 rfl ?_
  refine zj_iload_n (pc := 6) C dX7_way_6 rfl ?_
  refine zj_callSF (pc := 7) C kv_X7_67 (m_X7_at) dX7_way_7 rfl rfl rfl rfl rfl rfl ?_
  refine zq_iald (pc := 10) C dX7_way_10 7 rfl (by omega) (by decide) ?_
  exact zj_iretF C hr hlocks dX7_way_11 (congrArg nI (wyV_at hx hy)) rfl
set_option maxRecDepth 100000 in
set_option maxHeartbeats 4000000 in
theorem m_X7_looks {l : Launch} {G : GG} {m : Nat → Nat} {g ga gh : Nat → Nat} {kn : Nat} {gk : Nat → Nat} {kp : Bool} {tx : Nat → Nat} {ln : Nat} {iz wy wa tt rr we : Nat → Nat} {sp : Nat} {wr : Bool} {er : Int32} (hv : Vk g) : zX l G yX7_looks cX7_looks 3 none 3 67 0 0 [.ref (m 0)] (mB G m g ga gh kn gk kp tx ln iz wy wa tt rr we sp wr er).flatten (zF none (mB G m g ga gh kn gk kp tx ln (izV g) wy wa tt rr we sp wr er).flatten) := by
  refine zj_startF RX7 (by decide +kernel) rfl rfl rfl (bs := (mB G m g ga gh kn gk kp tx ln iz wy wa tt rr we sp wr er)) rfl (lo := [some (.ref (m 0)), none, none]) rfl ?_
  intro p0 e0 s0 m0 args0 below0 meth0 c0 A0 C hr hlocks
  have hk : kL g ≤ 25 := hv.1
  have hke : kL g = g 14 := rfl
  refine zj_iconst (pc := 0) (v := nI 0) C dX7_looks_0 (by decide) ?_
  refine zj_istore_n (pc := 1) C dX7_looks_1 (Nat.le_of_ble_eq_true rfl) ?_
  refine zj_keep [true, true, false] ?_
  refine zq_loop2 (fun (k : Nat) (f : Nat → Nat) => k ≤ 14 ∧ ∀ x, x < k → f x = 0) (fun (k : Nat) (f : Nat → Nat) => 14 - k) (fun (k : Nat) (f : Nat → Nat) => (mB G m g ga gh kn gk kp tx ln f wy wa tt rr we sp wr er)) (fun (k : Nat) (f : Nat → Nat) => [some (.ref (m 0)), some (.int (nI (k))), none]) ?_ 0 iz ⟨Nat.zero_le _, fun x hx => absurd hx (Nat.not_lt_zero _)⟩
  intro k f hI ih_2
  obtain ⟨h1, h2⟩ := hI
  refine zj_iload_n (pc := 2) C dX7_looks_2 rfl ?_
  refine zj_bipush (pc := 3) (v := nI 14) C dX7_looks_3 (by decide) ?_
  refine zq_icmp_ge (pc := 5) 21 C dX7_looks_5 (by decide) (by omega) (by omega) (fun c_5 => ?_) (fun c_5 => ?_)
  · refine zj_iconst (pc := 21) (v := nI 0) C dX7_looks_21 (by decide) ?_
    refine zj_istore_n (pc := 22) C dX7_looks_22 (Nat.le_of_ble_eq_true rfl) ?_
    refine zj_keep [true, true, false] ?_
    refine zq_loop2 (fun (i : Nat) (e : Nat → Nat) => i ≤ kL g ∧ ∀ x, x < 14 → e x = izI g i x) (fun (i : Nat) (e : Nat → Nat) => kL g - i) (fun (i : Nat) (e : Nat → Nat) => (mB G m g ga gh kn gk kp tx ln e wy wa tt rr we sp wr er)) (fun (i : Nat) (e : Nat → Nat) => [some (.ref (m 0)), some (.int (nI (i))), none]) ?_ 0 f ⟨Nat.zero_le _, fun x hx => h2 x (by omega)⟩
    intro i e hI ih_23
    obtain ⟨h3, h4⟩ := hI
    refine zj_iload_n (pc := 23) C dX7_looks_23 rfl ?_
    refine zj_aload_n (pc := 24) C dX7_looks_24 rfl ?_
    refine gf_X7_0 (pc := 25) C dX7_looks_25 0 rfl ?_
    refine zj_bipush (pc := 28) (v := nI 14) C dX7_looks_28 (by decide) ?_
    refine zq_iald (pc := 30) C dX7_looks_30 1 rfl (by omega) (by decide) ?_
    refine zq_icmp_ge (pc := 31) 91 C dX7_looks_31 (by decide) (by omega) (by omega) (fun c_31 => ?_) (fun c_31 => ?_)
    · have he : i = kL g := by omega
      refine zq_row 6 (izV g) rfl (fun x hx => by rw [h4 x hx, he]; rfl) ?_
      refine zj_blk (bs' := (mB G m g ga gh kn gk kp tx ln (izV g) wy wa tt rr we sp wr er)) rfl ?_
      exact zj_vretF C hr hlocks dX7_looks_91 rfl
    · obtain ⟨h25, x0, x1, x2, -, -, x5, -⟩ := Vk_x hv (show i < kL g by omega)
      refine zq_mrg 54 [] (nI (if told g i = true then 2 ^ lnC g i 3 else 0)) ?_ (fun kk => ?_)
      · refine zj_istore_n (pc := 54) C dX7_looks_54 (Nat.le_of_ble_eq_true rfl) ?_
        refine zj_aload_n (pc := 55) C dX7_looks_55 rfl ?_
        refine gf_X7_8 (pc := 56) C dX7_looks_56 0 rfl ?_
        refine zj_aload_n (pc := 59) C dX7_looks_59 rfl ?_
        refine zj_iload_n (pc := 60) C dX7_looks_60 rfl ?_
        refine zj_iconst (pc := 61) (v := nI 0) C dX7_looks_61 (by decide) ?_
        refine zq_callP (pc := 62) C kv_X7_51 (m_X7_of (by omega) (by decide)) dX7_looks_62 rfl rfl rfl rfl rfl rfl ⟨0, rfl⟩ rfl rfl ?_
        refine zj_dup2 (pc := 65) C dX7_looks_65 rfl rfl ?_
        refine zq_iald (pc := 66) C dX7_looks_66 6 rfl (by omega) (by decide) ?_
        refine zj_iload_n (pc := 67) C dX7_looks_67 rfl ?_
        refine zq_ior (pc := 68) C dX7_looks_68 ?_
        refine zq_iast (pc := 69) C dX7_looks_69 6 rfl (by omega) (by decide) ?_
        refine zj_blk (bs' := (mB G m g ga gh kn gk kp tx ln (updN e (lnC g i 0) ((e (lnC g i 0)) ||| (if told g i = true then 2 ^ lnC g i 3 else 0))) wy wa tt rr we sp wr er)) rfl ?_
        refine zj_aload_n (pc := 70) C dX7_looks_70 rfl ?_
        refine gf_X7_8 (pc := 71) C dX7_looks_71 0 rfl ?_
        refine zj_aload_n (pc := 74) C dX7_looks_74 rfl ?_
        refine zj_iload_n (pc := 75) C dX7_looks_75 rfl ?_
        refine zj_iconst (pc := 76) (v := nI 1) C dX7_looks_76 (by decide) ?_
        refine zq_callP (pc := 77) C kv_X7_51 (m_X7_of (by omega) (by decide)) dX7_looks_77 rfl rfl rfl rfl rfl rfl ⟨0, rfl⟩ rfl rfl ?_
        refine zj_dup2 (pc := 80) C dX7_looks_80 rfl rfl ?_
        refine zq_iald (pc := 81) C dX7_looks_81 6 rfl (by omega) (by decide) ?_
        refine zj_iload_n (pc := 82) C dX7_looks_82 rfl ?_
        refine zq_ior (pc := 83) C dX7_looks_83 ?_
        refine zq_iast (pc := 84) C dX7_looks_84 6 rfl (by omega) (by decide) ?_
        refine zj_blk (bs' := (mB G m g ga gh kn gk kp tx ln (updN (updN e (lnC g i 0) ((e (lnC g i 0)) ||| (if told g i = true then 2 ^ lnC g i 3 else 0))) (lnC g i 1) (((updN e (lnC g i 0) ((e (lnC g i 0)) ||| (if told g i = true then 2 ^ lnC g i 3 else 0))) (lnC g i 1)) ||| (if told g i = true then 2 ^ lnC g i 3 else 0))) wy wa tt rr we sp wr er)) rfl ?_
        refine zj_iinc (pc := 85) (v := nI (i + 1)) C dX7_looks_85 rfl (nI_1 _) ?_
        refine zj_goto (pc := 88) (tgt := 23) C dX7_looks_88 (by decide) ?_
        refine zj_keep [true, true, false] ?_
        exact ih_23 (i + 1) (updN (updN e (lnC g i 0) ((e (lnC g i 0)) ||| (if told g i = true then 2 ^ lnC g i 3 else 0))) (lnC g i 1) (((updN e (lnC g i 0) ((e (lnC g i 0)) ||| (if told g i = true then 2 ^ lnC g i 3 else 0))) (lnC g i 1)) ||| (if told g i = true then 2 ^ lnC g i 3 else 0))) ⟨by omega, fun x hx => by rw [izI_s (by omega), ← h4 x hx]; unfold updN; split <;> split <;> first | rfl | omega | (simp_all; done) | (subst_vars; split <;> first | rfl | omega | (simp_all; done))⟩ (by omega)
      · refine zj_aload_n (pc := 34) C dX7_looks_34 rfl ?_
        refine zj_iload_n (pc := 35) C dX7_looks_35 rfl ?_
        refine zq_callP (pc := 36) C kv_X7_59 (m_X7_isTold hv (by omega)) dX7_looks_36 rfl rfl rfl rfl rfl rfl ⟨0, rfl⟩ rfl rfl ?_
        refine zj_ifb_eq (pc := 39) 53 C dX7_looks_39 (by decide) (fun c_39 => ?_) (fun c_39 => ?_)
        · refine zj_iconst (pc := 53) (v := nI 0) C dX7_looks_53 (by decide) ?_
          exact zj_top (x' := nI (if told g i = true then 2 ^ lnC g i 3 else 0)) (congrArg nI (if_neg (by rw [c_39]; decide)).symm) kk
        · refine zj_iconst (pc := 42) (v := nI 1) C dX7_looks_42 (by decide) ?_
          refine zj_aload_n (pc := 43) C dX7_looks_43 rfl ?_
          refine zj_iload_n (pc := 44) C dX7_looks_44 rfl ?_
          refine zj_iconst (pc := 45) (v := nI 3) C dX7_looks_45 (by decide) ?_
          refine zq_callP (pc := 46) C kv_X7_51 (m_X7_of (by omega) (by decide)) dX7_looks_46 rfl rfl rfl rfl rfl rfl ⟨0, rfl⟩ rfl rfl ?_
          refine zq_shl1 (pc := 49) C dX7_looks_49 (by omega) ?_
          refine zj_goto (pc := 50) (tgt := 54) C dX7_looks_50 (by decide) ?_
          exact zj_top (x' := nI (if told g i = true then 2 ^ lnC g i 3 else 0)) (congrArg nI (if_pos c_39).symm) kk
  · refine zj_aload_n (pc := 8) C dX7_looks_8 rfl ?_
    refine gf_X7_8 (pc := 9) C dX7_looks_9 0 rfl ?_
    refine zj_iload_n (pc := 12) C dX7_looks_12 rfl ?_
    refine zj_iconst (pc := 13) (v := nI 0) C dX7_looks_13 (by decide) ?_
    refine zq_iast (pc := 14) C dX7_looks_14 6 rfl (by omega) (by decide) ?_
    refine zj_blk (bs' := (mB G m g ga gh kn gk kp tx ln (updN f k 0) wy wa tt rr we sp wr er)) rfl ?_
    refine zj_iinc (pc := 15) (v := nI (k + 1)) C dX7_looks_15 rfl (nI_1 _) ?_
    refine zj_goto (pc := 18) (tgt := 2) C dX7_looks_18 (by decide) ?_
    refine zj_keep [true, true, false] ?_
    exact ih_2 (k + 1) (updN f k 0) ⟨by omega, fun x hx => by unfold updN; split <;> first | rfl | exact h2 x (by omega)⟩ (by omega)
set_option maxRecDepth 100000 in
set_option maxHeartbeats 4000000 in
theorem m_X7_joins {l : Launch} {G : GG} {m : Nat → Nat} {g ga gh : Nat → Nat} {kn : Nat} {gk : Nat → Nat} {kp : Bool} {tx : Nat → Nat} {ln : Nat} {iz wa tt rr we : Nat → Nat} {sp : Nat} {wr : Bool} {er : Int32} {d i : Nat} {w M : Nat → Nat} (hv : Vk g) (hi : i < kL g) (hd : d < 4) (hM : ∀ k, M k ≤ 1000000) : zX l G yX7_joins cX7_joins 5 none 1 22 0 0 [.ref (m 0), .int (nI (d)), .int (nI (i))] (mB G m g ga gh kn gk kp tx ln iz (blk w d M) wa tt rr we sp wr er).flatten (zF none (mB G m g ga gh kn gk kp tx ln iz (blk w d (jnM M (lnC g i 0) (lnC g i 1) (lnC g i 2))) wa tt rr we sp wr er).flatten) := by
  refine zj_startF RX7 (by decide +kernel) rfl rfl rfl (bs := (mB G m g ga gh kn gk kp tx ln iz (blk w d M) wa tt rr we sp wr er)) rfl (lo := [some (.ref (m 0)), some (.int (nI (d))), some (.int (nI (i))), none, none]) rfl ?_
  intro p0 e0 s0 m0 args0 below0 meth0 c0 A0 C hr hlocks
  obtain ⟨h25, x0, x1, x2, l1, l2, -⟩ := Vk_x hv hi
  have hM9 := hM (14 * lnC g i 0 + lnC g i 1)
  have e1 : blk w d M (196 * d + 14 * lnC g i 0 + lnC g i 1) = M (14 * lnC g i 0 + lnC g i 1) := bk_at x0 x1
  refine zj_iload_n (pc := 0) C dX7_joins_0 rfl ?_
  refine zj_aload_n (pc := 1) C dX7_joins_1 rfl ?_
  refine zj_iload_n (pc := 2) C dX7_joins_2 rfl ?_
  refine zj_iconst (pc := 3) (v := nI 0) C dX7_joins_3 (by decide) ?_
  refine zq_callP (pc := 4) C kv_X7_51 (m_X7_of (by omega) (by decide)) dX7_joins_4 rfl rfl rfl rfl rfl rfl ⟨0, rfl⟩ rfl rfl ?_
  refine zj_aload_n (pc := 7) C dX7_joins_7 rfl ?_
  refine zj_iload_n (pc := 8) C dX7_joins_8 rfl ?_
  refine zj_iconst (pc := 9) (v := nI 1) C dX7_joins_9 (by decide) ?_
  refine zq_callP (pc := 10) C kv_X7_51 (m_X7_of (by omega) (by decide)) dX7_joins_10 rfl rfl rfl rfl rfl rfl ⟨0, rfl⟩ rfl rfl ?_
  refine zj_callSF (pc := 13) C kv_X7_67 (m_X7_at) dX7_joins_13 rfl rfl rfl rfl rfl rfl ?_
  refine zj_istore_n (pc := 16) C dX7_joins_16 (Nat.le_of_ble_eq_true rfl) ?_
  refine zj_iload_n (pc := 17) C dX7_joins_17 rfl ?_
  refine zj_aload_n (pc := 18) C dX7_joins_18 rfl ?_
  refine zj_iload_n (pc := 19) C dX7_joins_19 rfl ?_
  refine zj_iconst (pc := 20) (v := nI 1) C dX7_joins_20 (by decide) ?_
  refine zq_callP (pc := 21) C kv_X7_51 (m_X7_of (by omega) (by decide)) dX7_joins_21 rfl rfl rfl rfl rfl rfl ⟨0, rfl⟩ rfl rfl ?_
  refine zj_aload_n (pc := 24) C dX7_joins_24 rfl ?_
  refine zj_iload_n (pc := 25) C dX7_joins_25 rfl ?_
  refine zj_iconst (pc := 26) (v := nI 0) C dX7_joins_26 (by decide) ?_
  refine zq_callP (pc := 27) C kv_X7_51 (m_X7_of (by omega) (by decide)) dX7_joins_27 rfl rfl rfl rfl rfl rfl ⟨0, rfl⟩ rfl rfl ?_
  refine zj_callSF (pc := 30) C kv_X7_67 (m_X7_at) dX7_joins_30 rfl rfl rfl rfl rfl rfl ?_
  refine zj_istore (pc := 33) C dX7_joins_33 (Nat.le_of_ble_eq_true rfl) ?_
  refine zj_aload_n (pc := 35) C dX7_joins_35 rfl ?_
  refine gf_X7_9 (pc := 36) C dX7_joins_36 0 rfl ?_
  refine zj_iload_n (pc := 39) C dX7_joins_39 rfl ?_
  refine zq_mrg 70 [.int (nI (196 * d + 14 * (lnC g i 0) + (lnC g i 1))), .ref (m 7)] (nI (min (lnC g i 2) (M (14 * lnC g i 0 + lnC g i 1)))) ?_ (fun kk => ?_)
  · refine zq_iast (pc := 70) C dX7_joins_70 7 rfl (by omega) (by decide) ?_
    refine zj_blk (bs' := (mB G m g ga gh kn gk kp tx ln iz (updN (blk w d M) (196 * d + 14 * (lnC g i 0) + (lnC g i 1)) (min (lnC g i 2) (M (14 * lnC g i 0 + lnC g i 1)))) wa tt rr we sp wr er)) rfl ?_
    refine zj_aload_n (pc := 71) C dX7_joins_71 rfl ?_
    refine gf_X7_9 (pc := 72) C dX7_joins_72 0 rfl ?_
    refine zj_iload (pc := 75) C dX7_joins_75 rfl ?_
    refine zj_aload_n (pc := 77) C dX7_joins_77 rfl ?_
    refine gf_X7_9 (pc := 78) C dX7_joins_78 0 rfl ?_
    refine zj_iload_n (pc := 81) C dX7_joins_81 rfl ?_
    refine zq_iald (pc := 82) C dX7_joins_82 7 rfl (by omega) (by decide) ?_
    refine zq_iast (pc := 83) C dX7_joins_83 7 rfl (by omega) (by decide) ?_
    refine zj_blk (bs' := (mB G m g ga gh kn gk kp tx ln iz (updN (updN (blk w d M) (196 * d + 14 * (lnC g i 0) + (lnC g i 1)) (min (lnC g i 2) (M (14 * lnC g i 0 + lnC g i 1)))) (196 * d + 14 * (lnC g i 1) + (lnC g i 0)) ((updN (blk w d M) (196 * d + 14 * (lnC g i 0) + (lnC g i 1)) (min (lnC g i 2) (M (14 * lnC g i 0 + lnC g i 1)))) (196 * d + 14 * (lnC g i 0) + (lnC g i 1)))) wa tt rr we sp wr er)) rfl ?_
    refine zj_blk (bs' := (mB G m g ga gh kn gk kp tx ln iz (blk w d (jnM M (lnC g i 0) (lnC g i 1) (lnC g i 2))) wa tt rr we sp wr er)) (by rw [uN_s, Nat.add_assoc, blk_upd (by omega), Nat.add_assoc, blk_upd (by omega)]; rfl) ?_
    exact zj_vretF C hr hlocks dX7_joins_84 rfl
  · refine zj_aload_n (pc := 40) C dX7_joins_40 rfl ?_
    refine zj_iload_n (pc := 41) C dX7_joins_41 rfl ?_
    refine zj_iconst (pc := 42) (v := nI 2) C dX7_joins_42 (by decide) ?_
    refine zq_callP (pc := 43) C kv_X7_51 (m_X7_of (by omega) (by decide)) dX7_joins_43 rfl rfl rfl rfl rfl rfl ⟨0, rfl⟩ rfl rfl ?_
    refine zj_aload_n (pc := 46) C dX7_joins_46 rfl ?_
    refine gf_X7_9 (pc := 47) C dX7_joins_47 0 rfl ?_
    refine zj_iload_n (pc := 50) C dX7_joins_50 rfl ?_
    refine zq_iald (pc := 51) C dX7_joins_51 7 rfl (by omega) (by decide) ?_
    refine zq_icmp_ge (pc := 52) 64 C dX7_joins_52 (by decide) (by omega) (by omega) (fun c_52 => ?_) (fun c_52 => ?_)
    · refine zj_aload_n (pc := 64) C dX7_joins_64 rfl ?_
      refine gf_X7_9 (pc := 65) C dX7_joins_65 0 rfl ?_
      refine zj_iload_n (pc := 68) C dX7_joins_68 rfl ?_
      refine zq_iald (pc := 69) C dX7_joins_69 7 rfl (by omega) (by decide) ?_
      exact zj_top (x' := nI (min (lnC g i 2) (M (14 * lnC g i 0 + lnC g i 1)))) (congrArg nI (by omega)) kk
    · refine zj_aload_n (pc := 55) C dX7_joins_55 rfl ?_
      refine zj_iload_n (pc := 56) C dX7_joins_56 rfl ?_
      refine zj_iconst (pc := 57) (v := nI 2) C dX7_joins_57 (by decide) ?_
      refine zq_callP (pc := 58) C kv_X7_51 (m_X7_of (by omega) (by decide)) dX7_joins_58 rfl rfl rfl rfl rfl rfl ⟨0, rfl⟩ rfl rfl ?_
      refine zj_goto (pc := 61) (tgt := 70) C dX7_joins_61 (by decide) ?_
      exact zj_top (x' := nI (min (lnC g i 2) (M (14 * lnC g i 0 + lnC g i 1)))) (congrArg nI (by omega)) kk
set_option maxRecDepth 100000 in
set_option maxHeartbeats 4000000 in
theorem m_X7_worksOut {l : Launch} {G : GG} {m : Nat → Nat} {g ga gh : Nat → Nat} {kn : Nat} {gk : Nat → Nat} {kp : Bool} {tx : Nat → Nat} {ln : Nat} {wy wa tt rr we : Nat → Nat} {sp : Nat} {wr : Bool} {er : Int32} {d : Nat} (hv : Vk g) (hd : d < 4) : zX l G yX7_worksOut cX7_worksOut 5 none 3 67 0 0 [.ref (m 0), .int (nI (d))] (mB G m g ga gh kn gk kp tx ln (izV g) wy wa tt rr we sp wr er).flatten (zF none (mB G m g ga gh kn gk kp tx ln (izV g) (blk wy d (dsF g d)) wa tt rr we sp wr er).flatten) := by
  refine zj_startF RX7 (by decide +kernel) rfl rfl rfl (bs := (mB G m g ga gh kn gk kp tx ln (izV g) wy wa tt rr we sp wr er)) rfl (lo := [some (.ref (m 0)), some (.int (nI (d))), none, none, none]) rfl ?_
  intro p0 e0 s0 m0 args0 below0 meth0 c0 A0 C hr hlocks
  have hk : kL g ≤ 25 := hv.1
  have hke : kL g = g 14 := rfl
  have hl := Vk_l hv
  refine zj_iconst (pc := 0) (v := nI 0) C dX7_worksOut_0 (by decide) ?_
  refine zj_istore_n (pc := 1) C dX7_worksOut_1 (Nat.le_of_ble_eq_true rfl) ?_
  refine zj_blk (bs' := (mB G m g ga gh kn gk kp tx ln (izV g) (blk wy d (inK (in0 g d) (fun k => wy (196 * d + k)) (0))) wa tt rr we sp wr er)) (by rw [blk_k0]) ?_
  refine zj_keep [true, true, true, false, false] ?_
  refine zq_loop1 (fun (k : Nat) => k ≤ 196) (fun (k : Nat) => 196 - k) (fun (k : Nat) => (mB G m g ga gh kn gk kp tx ln (izV g) (blk wy d (inK (in0 g d) (fun k => wy (196 * d + k)) (k))) wa tt rr we sp wr er)) (fun (k : Nat) => [some (.ref (m 0)), some (.int (nI (d))), some (.int (nI (k))), none, none]) ?_ 0 (Nat.zero_le _)
  intro k hI ih_2
  refine zj_iload_n (pc := 2) C dX7_worksOut_2 rfl ?_
  refine zj_sipush (pc := 3) (v := nI 196) C dX7_worksOut_3 (by decide) ?_
  refine zq_icmp_ge (pc := 6) 56 C dX7_worksOut_6 (by decide) (by omega) (by omega) (fun c_6 => ?_) (fun c_6 => ?_)
  · refine zj_iconst (pc := 56) (v := nI 0) C dX7_worksOut_56 (by decide) ?_
    refine zj_istore_n (pc := 57) C dX7_worksOut_57 (Nat.le_of_ble_eq_true rfl) ?_
    refine zj_blk (bs' := (mB G m g ga gh kn gk kp tx ln (izV g) (blk wy d (jnE g (pL g d) (in0 g d) (0))) wa tt rr we sp wr er)) (by rw [show k = 196 by omega, blk_k]; rfl) ?_
    refine zj_keep [true, true, true, false, false] ?_
    refine zq_loop1 (fun (i : Nat) => i ≤ kL g) (fun (i : Nat) => kL g - i) (fun (i : Nat) => (mB G m g ga gh kn gk kp tx ln (izV g) (blk wy d (jnE g (pL g d) (in0 g d) (i))) wa tt rr we sp wr er)) (fun (i : Nat) => [some (.ref (m 0)), some (.int (nI (d))), some (.int (nI (i))), none, none]) ?_ 0 (Nat.zero_le _)
    intro i hI ih_58
    refine zj_iload_n (pc := 58) C dX7_worksOut_58 rfl ?_
    refine zj_aload_n (pc := 59) C dX7_worksOut_59 rfl ?_
    refine gf_X7_0 (pc := 60) C dX7_worksOut_60 0 rfl ?_
    refine zj_bipush (pc := 63) (v := nI 14) C dX7_worksOut_63 (by decide) ?_
    refine zq_iald (pc := 65) C dX7_worksOut_65 1 rfl (by omega) (by decide) ?_
    refine zq_icmp_ge (pc := 66) 99 C dX7_worksOut_66 (by decide) (by omega) (by omega) (fun c_66 => ?_) (fun c_66 => ?_)
    · refine zj_iconst (pc := 99) (v := nI 0) C dX7_worksOut_99 (by decide) ?_
      refine zj_istore_n (pc := 100) C dX7_worksOut_100 (Nat.le_of_ble_eq_true rfl) ?_
      have hi9 : i = kL g := by omega
      refine zj_blk (bs' := (mB G m g ga gh kn gk kp tx ln (izV g) (blk wy d (mxF (fwN (fwE g d) (0 / 196)) (0 / 196) (0 % 196))) wa tt rr we sp wr er)) (by rw [← fw_0, hi9]; rfl) ?_
      clear hi9
      refine zj_keep [true, true, true, false, false] ?_
      refine zq_loop1 (fun (k : Nat) => k ≤ 2744) (fun (k : Nat) => 2744 - k) (fun (k : Nat) => (mB G m g ga gh kn gk kp tx ln (izV g) (blk wy d (mxF (fwN (fwE g d) (k / 196)) (k / 196) (k % 196))) wa tt rr we sp wr er)) (fun (k : Nat) => [some (.ref (m 0)), some (.int (nI (d))), some (.int (nI (k))), none, none]) ?_ 0 (Nat.zero_le _)
      intro k hI ih_101
      refine zj_iload_n (pc := 101) C dX7_worksOut_101 rfl ?_
      refine zj_sipush (pc := 102) (v := nI 2744) C dX7_worksOut_102 (by decide) ?_
      refine zq_icmp_ge (pc := 105) 194 C dX7_worksOut_105 (by decide) (by omega) (by omega) (fun c_105 => ?_) (fun c_105 => ?_)
      · refine zj_blk (bs' := (mB G m g ga gh kn gk kp tx ln (izV g) (blk wy d (dsF g d)) wa tt rr we sp wr er)) (by rw [show k = 2744 by omega, fw_end hl (by omega)]) ?_
        exact zj_vretF C hr hlocks dX7_worksOut_194 rfl
      · refine zj_iload_n (pc := 108) C dX7_worksOut_108 rfl ?_
        refine zj_bipush (pc := 109) (v := nI 14) C dX7_worksOut_109 (by decide) ?_
        refine zq_idiv (pc := 111) C dX7_worksOut_111 (by omega) (by decide) (by decide) ?_
        refine zj_bipush (pc := 112) (v := nI 14) C dX7_worksOut_112 (by decide) ?_
        refine zq_irem (pc := 114) C dX7_worksOut_114 (by omega) (by decide) (by decide) ?_
        refine zj_istore_n (pc := 115) C dX7_worksOut_115 (Nat.le_of_ble_eq_true rfl) ?_
        refine zj_aload_n (pc := 116) C dX7_worksOut_116 rfl ?_
        refine zj_iload_n (pc := 117) C dX7_worksOut_117 rfl ?_
        refine zj_iload_n (pc := 118) C dX7_worksOut_118 rfl ?_
        refine zj_iload_n (pc := 119) C dX7_worksOut_119 rfl ?_
        refine zj_sipush (pc := 120) (v := nI 196) C dX7_worksOut_120 (by decide) ?_
        refine zq_idiv (pc := 123) C dX7_worksOut_123 (by omega) (by decide) (by decide) ?_
        refine zq_callP (pc := 124) C kv_X7_76 (m_X7_way (by omega) (by omega) (by omega)) dX7_worksOut_124 rfl rfl rfl rfl rfl rfl ⟨0, rfl⟩ rfl rfl ?_
        refine zj_top (x' := nI (fwN (fwE g d) (k / 196) (14 * (k / 14 % 14) + k / 196))) (congrArg nI (by rw [bk_at (by omega) (by omega), mx_c (by omega)])) ?_
        have b1 := fwE_1M hl (d := d) (v := k / 196) (14 * (k / 14 % 14) + k / 196)
        refine zj_aload_n (pc := 127) C dX7_worksOut_127 rfl ?_
        refine zj_iload_n (pc := 128) C dX7_worksOut_128 rfl ?_
        refine zj_iload_n (pc := 129) C dX7_worksOut_129 rfl ?_
        refine zj_sipush (pc := 130) (v := nI 196) C dX7_worksOut_130 (by decide) ?_
        refine zq_idiv (pc := 133) C dX7_worksOut_133 (by omega) (by decide) (by decide) ?_
        refine zj_iload_n (pc := 134) C dX7_worksOut_134 rfl ?_
        refine zj_bipush (pc := 135) (v := nI 14) C dX7_worksOut_135 (by decide) ?_
        refine zq_irem (pc := 137) C dX7_worksOut_137 (by omega) (by decide) (by decide) ?_
        refine zq_callP (pc := 138) C kv_X7_76 (m_X7_way (by omega) (by omega) (by omega)) dX7_worksOut_138 rfl rfl rfl rfl rfl rfl ⟨0, rfl⟩ rfl rfl ?_
        refine zj_top (x' := nI (fwN (fwE g d) (k / 196) (14 * (k / 196) + k % 14))) (congrArg nI (by rw [bk_at (by omega) (by omega), mx_r (by omega)])) ?_
        have b2 := fwE_1M hl (d := d) (v := k / 196) (14 * (k / 196) + k % 14)
        have b3 := fwE_1M hl (d := d) (v := k / 196) (14 * (k / 14 % 14) + k % 14)
        refine zq_iadd (pc := 141) C dX7_worksOut_141 ?_
        refine zj_istore (pc := 142) C dX7_worksOut_142 (Nat.le_of_ble_eq_true rfl) ?_
        refine zj_aload_n (pc := 144) C dX7_worksOut_144 rfl ?_
        refine gf_X7_9 (pc := 145) C dX7_worksOut_145 0 rfl ?_
        refine zj_iload_n (pc := 148) C dX7_worksOut_148 rfl ?_
        refine zj_iload_n (pc := 149) C dX7_worksOut_149 rfl ?_
        refine zj_iload_n (pc := 150) C dX7_worksOut_150 rfl ?_
        refine zj_bipush (pc := 151) (v := nI 14) C dX7_worksOut_151 (by decide) ?_
        refine zq_irem (pc := 153) C dX7_worksOut_153 (by omega) (by decide) (by decide) ?_
        refine zj_callSF (pc := 154) C kv_X7_67 (m_X7_at) dX7_worksOut_154 rfl rfl rfl rfl rfl rfl ?_
        refine zq_mrg 187 [.int (nI (196 * d + 14 * ((k / 14) % 14) + (k % 14))), .ref (m 7)] (nI (min (fwN (fwE g d) (k / 196) (14 * (k / 14 % 14) + k % 14)) (fwN (fwE g d) (k / 196) (14 * (k / 14 % 14) + k / 196) + fwN (fwE g d) (k / 196) (14 * (k / 196) + k % 14)))) ?_ (fun kk => ?_)
        · refine zq_iast (pc := 187) C dX7_worksOut_187 7 rfl (by omega) (by decide) ?_
          refine zj_blk (bs' := (mB G m g ga gh kn gk kp tx ln (izV g) (updN (blk wy d (mxF (fwN (fwE g d) (k / 196)) (k / 196) (k % 196))) (196 * d + 14 * ((k / 14) % 14) + (k % 14)) (min (fwN (fwE g d) (k / 196) (14 * (k / 14 % 14) + k % 14)) (fwN (fwE g d) (k / 196) (14 * (k / 14 % 14) + k / 196) + fwN (fwE g d) (k / 196) (14 * (k / 196) + k % 14)))) wa tt rr we sp wr er)) rfl ?_
          refine zj_iinc (pc := 188) (v := nI (k + 1)) C dX7_worksOut_188 rfl (nI_1 _) ?_
          refine zj_goto (pc := 191) (tgt := 101) C dX7_worksOut_191 (by decide) ?_
          refine zj_blk (bs' := (mB G m g ga gh kn gk kp tx ln (izV g) (blk wy d (mxF (fwN (fwE g d) ((k + 1) / 196)) ((k + 1) / 196) ((k + 1) % 196))) wa tt rr we sp wr er)) (by rw [fw_st (by omega)]) ?_
          refine zj_keep [true, true, true, false, false] ?_
          exact ih_101 (k + 1) (by omega) (by omega)
        · refine zj_iload (pc := 157) C dX7_worksOut_157 rfl ?_
          refine zj_aload_n (pc := 159) C dX7_worksOut_159 rfl ?_
          refine zj_iload_n (pc := 160) C dX7_worksOut_160 rfl ?_
          refine zj_iload_n (pc := 161) C dX7_worksOut_161 rfl ?_
          refine zj_iload_n (pc := 162) C dX7_worksOut_162 rfl ?_
          refine zj_bipush (pc := 163) (v := nI 14) C dX7_worksOut_163 (by decide) ?_
          refine zq_irem (pc := 165) C dX7_worksOut_165 (by omega) (by decide) (by decide) ?_
          refine zq_callP (pc := 166) C kv_X7_76 (m_X7_way (by omega) (by omega) (by omega)) dX7_worksOut_166 rfl rfl rfl rfl rfl rfl ⟨0, rfl⟩ rfl rfl ?_
          refine zj_top (x' := nI (fwN (fwE g d) (k / 196) (14 * (k / 14 % 14) + k % 14))) (congrArg nI (by rw [bk_at (by omega) (by omega), fw_cur])) ?_
          refine zq_icmp_ge (pc := 169) 177 C dX7_worksOut_169 (by decide) (by omega) (by omega) (fun c_169 => ?_) (fun c_169 => ?_)
          · refine zj_aload_n (pc := 177) C dX7_worksOut_177 rfl ?_
            refine zj_iload_n (pc := 178) C dX7_worksOut_178 rfl ?_
            refine zj_iload_n (pc := 179) C dX7_worksOut_179 rfl ?_
            refine zj_iload_n (pc := 180) C dX7_worksOut_180 rfl ?_
            refine zj_bipush (pc := 181) (v := nI 14) C dX7_worksOut_181 (by decide) ?_
            refine zq_irem (pc := 183) C dX7_worksOut_183 (by omega) (by decide) (by decide) ?_
            refine zq_callP (pc := 184) C kv_X7_76 (m_X7_way (by omega) (by omega) (by omega)) dX7_worksOut_184 rfl rfl rfl rfl rfl rfl ⟨0, rfl⟩ rfl rfl ?_
            refine zj_top (x' := nI (fwN (fwE g d) (k / 196) (14 * (k / 14 % 14) + k % 14))) (congrArg nI (by rw [bk_at (by omega) (by omega), fw_cur])) ?_
            exact zj_top (x' := nI (min (fwN (fwE g d) (k / 196) (14 * (k / 14 % 14) + k % 14)) (fwN (fwE g d) (k / 196) (14 * (k / 14 % 14) + k / 196) + fwN (fwE g d) (k / 196) (14 * (k / 196) + k % 14)))) (congrArg nI (by omega)) kk
          · refine zj_iload (pc := 172) C dX7_worksOut_172 rfl ?_
            refine zj_goto (pc := 174) (tgt := 187) C dX7_worksOut_174 (by decide) ?_
            exact zj_top (x' := nI (min (fwN (fwE g d) (k / 196) (14 * (k / 14 % 14) + k % 14)) (fwN (fwE g d) (k / 196) (14 * (k / 14 % 14) + k / 196) + fwN (fwE g d) (k / 196) (14 * (k / 196) + k % 14)))) (congrArg nI (by omega)) kk
    · refine zj_aload_n (pc := 69) C dX7_worksOut_69 rfl ?_
      refine zj_iload_n (pc := 70) C dX7_worksOut_70 rfl ?_
      refine zq_callP (pc := 71) C kv_X7_59 (m_X7_isTold hv (by omega)) dX7_worksOut_71 rfl rfl rfl rfl rfl rfl ⟨0, rfl⟩ rfl rfl ?_
      refine zj_ifb_eq (pc := 74) 93 C dX7_worksOut_74 (by decide) (fun c_74 => ?_) (fun c_74 => ?_)
      · refine zj_iinc (pc := 93) (v := nI (i + 1)) C dX7_worksOut_93 rfl (nI_1 _) ?_
        refine zj_goto (pc := 96) (tgt := 58) C dX7_worksOut_96 (by decide) ?_
        refine zj_blk (bs' := (mB G m g ga gh kn gk kp tx ln (izV g) (blk wy d (jnE g (pL g d) (in0 g d) (i + 1))) wa tt rr we sp wr er)) (by rw [jnE_f (show pL g d i = false by unfold pL; rw [c_74]; rfl)]) ?_
        refine zj_keep [true, true, true, false, false] ?_
        exact ih_58 (i + 1) (by omega) (by omega)
      · obtain ⟨h25, x0, x1, x2, l1, l2, l3, -⟩ := Vk_x hv (show i < kL g by omega)
        refine zj_aload_n (pc := 77) C dX7_worksOut_77 rfl ?_
        refine zj_iload_n (pc := 78) C dX7_worksOut_78 rfl ?_
        refine zj_iconst (pc := 79) (v := nI 3) C dX7_worksOut_79 (by decide) ?_
        refine zq_callP (pc := 80) C kv_X7_51 (m_X7_of (by omega) (by decide)) dX7_worksOut_80 rfl rfl rfl rfl rfl rfl ⟨0, rfl⟩ rfl rfl ?_
        refine zj_iload_n (pc := 83) C dX7_worksOut_83 rfl ?_
        refine zq_icmp_ne (pc := 84) 93 C dX7_worksOut_84 (by decide) (by omega) (by omega) (fun c_84 => ?_) (fun c_84 => ?_)
        · refine zj_iinc (pc := 93) (v := nI (i + 1)) C dX7_worksOut_93 rfl (nI_1 _) ?_
          refine zj_goto (pc := 96) (tgt := 58) C dX7_worksOut_96 (by decide) ?_
          refine zj_blk (bs' := (mB G m g ga gh kn gk kp tx ln (izV g) (blk wy d (jnE g (pL g d) (in0 g d) (i + 1))) wa tt rr we sp wr er)) (by rw [jnE_f (show pL g d i = false from Bool.eq_false_iff.mpr (fun h => c_84 ((pL_t.mp h).2.resolve_left (by omega))))]) ?_
          refine zj_keep [true, true, true, false, false] ?_
          exact ih_58 (i + 1) (by omega) (by omega)
        · refine zj_aload_n (pc := 87) C dX7_worksOut_87 rfl ?_
          refine zj_iload_n (pc := 88) C dX7_worksOut_88 rfl ?_
          refine zj_iload_n (pc := 89) C dX7_worksOut_89 rfl ?_
          refine zq_callFn (pc := 90) (bs' := (mB G m g ga gh kn gk kp tx ln (izV g) (blk wy d (jnM (jnE g (pL g d) (in0 g d) i) (lnC g i 0) (lnC g i 1) (lnC g i 2))) wa tt rr we sp wr er)) C kv_X7_72 (m_X7_joins hv (by omega) hd (jnE_1M (fun k => in0_le) (lok_le hl (by omega)))) dX7_worksOut_90 rfl rfl rfl rfl rfl rfl ⟨0, rfl⟩ rfl rfl ?_
          refine zj_iinc (pc := 93) (v := nI (i + 1)) C dX7_worksOut_93 rfl (nI_1 _) ?_
          refine zj_goto (pc := 96) (tgt := 58) C dX7_worksOut_96 (by decide) ?_
          refine zj_blk (bs' := (mB G m g ga gh kn gk kp tx ln (izV g) (blk wy d (jnE g (pL g d) (in0 g d) (i + 1))) wa tt rr we sp wr er)) (by rw [jnE_t (pL_t.mpr ⟨c_74, Or.inr c_84⟩)]) ?_
          refine zj_keep [true, true, true, false, false] ?_
          exact ih_58 (i + 1) (by omega) (by omega)
  · refine zj_aload_n (pc := 9) C dX7_worksOut_9 rfl ?_
    refine gf_X7_9 (pc := 10) C dX7_worksOut_10 0 rfl ?_
    refine zj_sipush (pc := 13) (v := nI 196) C dX7_worksOut_13 (by decide) ?_
    refine zj_iload_n (pc := 16) C dX7_worksOut_16 rfl ?_
    refine zq_imul (pc := 17) C dX7_worksOut_17 ?_
    refine zj_iload_n (pc := 18) C dX7_worksOut_18 rfl ?_
    refine zq_iadd (pc := 19) C dX7_worksOut_19 ?_
    refine zq_mrg 49 [.int (nI (196 * d + k)), .ref (m 7)] (nI (in0 g d k)) ?_ (fun kk => ?_)
    · refine zq_iast (pc := 49) C dX7_worksOut_49 7 rfl (by omega) (by decide) ?_
      refine zj_blk (bs' := (mB G m g ga gh kn gk kp tx ln (izV g) (updN (blk wy d (inK (in0 g d) (fun k => wy (196 * d + k)) (k))) (196 * d + k) (in0 g d k)) wa tt rr we sp wr er)) rfl ?_
      refine zj_iinc (pc := 50) (v := nI (k + 1)) C dX7_worksOut_50 rfl (nI_1 _) ?_
      refine zj_goto (pc := 53) (tgt := 2) C dX7_worksOut_53 (by decide) ?_
      refine zj_blk (bs' := (mB G m g ga gh kn gk kp tx ln (izV g) (blk wy d (inK (in0 g d) (fun k => wy (196 * d + k)) (k + 1))) wa tt rr we sp wr er)) (by rw [blk_upd (by omega), inK_s]) ?_
      refine zj_keep [true, true, true, false, false] ?_
      exact ih_2 (k + 1) (by omega) (by omega)
    · refine zj_iload_n (pc := 20) C dX7_worksOut_20 rfl ?_
      refine zj_bipush (pc := 21) (v := nI 14) C dX7_worksOut_21 (by decide) ?_
      refine zq_idiv (pc := 23) C dX7_worksOut_23 (by omega) (by decide) (by decide) ?_
      refine zj_iload_n (pc := 24) C dX7_worksOut_24 rfl ?_
      refine zj_bipush (pc := 25) (v := nI 14) C dX7_worksOut_25 (by decide) ?_
      refine zq_irem (pc := 27) C dX7_worksOut_27 (by omega) (by decide) (by decide) ?_
      refine zq_icmp_ne (pc := 28) 47 C dX7_worksOut_28 (by decide) (by omega) (by omega) (fun c_28 => ?_) (fun c_28 => ?_)
      · refine zj_ldc (pc := 47) (v := nI 1000000) C dX7_worksOut_47 aq_1022 ?_
        exact zj_top (x' := nI (in0 g d k)) (congrArg nI (show in0 g d k = 1000000 from if_neg (fun q => c_28 q.1)).symm) kk
      · refine zj_aload_n (pc := 31) C dX7_worksOut_31 rfl ?_
        refine zj_iload_n (pc := 32) C dX7_worksOut_32 rfl ?_
        refine zj_bipush (pc := 33) (v := nI 14) C dX7_worksOut_33 (by decide) ?_
        refine zq_idiv (pc := 35) C dX7_worksOut_35 (by omega) (by decide) (by decide) ?_
        refine zj_iload_n (pc := 36) C dX7_worksOut_36 rfl ?_
        refine zq_callP (pc := 37) C kv_X7_63 (m_X7_isIn (by omega) (by omega)) dX7_worksOut_37 rfl rfl rfl rfl rfl rfl ⟨0, rfl⟩ rfl rfl ?_
        refine zj_ifb_eq (pc := 40) 47 C dX7_worksOut_40 (by decide) (fun c_40 => ?_) (fun c_40 => ?_)
        · refine zj_ldc (pc := 47) (v := nI 1000000) C dX7_worksOut_47 aq_1022 ?_
          exact zj_top (x' := nI (in0 g d k)) (congrArg nI (show in0 g d k = 1000000 from if_neg (fun q => q.2.elim (fun h => by omega) (fun h => by rw [c_40] at h; cases h))).symm) kk
        · refine zj_iconst (pc := 43) (v := nI 0) C dX7_worksOut_43 (by decide) ?_
          refine zj_goto (pc := 44) (tgt := 49) C dX7_worksOut_44 (by decide) ?_
          exact zj_top (x' := nI (in0 g d k)) (congrArg nI (show in0 g d k = 0 from if_pos ⟨c_28, Or.inr c_40⟩).symm) kk
theorem blk_upd0 {w M : Nat → Nat} {j v : Nat} (hj : j < 196) : updN (blk w 0 M) j v = blk w 0 (updN M j v) := by
  have := blk_upd (w := w) (M := M) (d := 0) (v := v) hj
  rwa [Nat.mul_zero, Nat.zero_add] at this
theorem blk_00 {w M : Nat → Nat} : blk w 0 (inK M w 0) = w := by
  funext k
  unfold blk inK
  split
  · rw [if_neg (by omega)]
    show w (k - 196 * 0) = w k
    rw [show k - 196 * 0 = k by omega]
  · rfl
theorem blk_0e {w M : Nat → Nat} : blk w 0 (inK M w 196) = blk w 0 M := blk_c fun k hk => if_pos hk
theorem jn_no {M : Nat → Nat} {a b : Nat} (h : M (14 * b + a) = M (14 * a + b)) : updN (updN M (14 * a + b) (M (14 * a + b))) (14 * b + a) (M (14 * a + b)) = M := by
  funext k
  unfold updN
  by_cases h1 : k = 14 * b + a
  · subst h1; rw [if_pos rfl, h]
  · rw [if_neg h1]
    by_cases h2 : k = 14 * a + b
    · subst h2; rw [if_pos rfl]
    · rw [if_neg h2]
set_option maxRecDepth 100000 in
set_option maxHeartbeats 4000000 in
theorem m_X7_worksOutAll {l : Launch} {G : GG} {m : Nat → Nat} {g ga gh : Nat → Nat} {kn : Nat} {gk : Nat → Nat} {kp : Bool} {tx : Nat → Nat} {ln : Nat} {iz wy wa tt rr we : Nat → Nat} {sp : Nat} {wr : Bool} {er : Int32} (hv : Vk g) : zX l G yX7_worksOutAll cX7_worksOutAll 5 none 3 67 0 0 [.ref (m 0)] (mB G m g ga gh kn gk kp tx ln iz wy wa tt rr we sp wr er).flatten (zF none (mB G m g ga gh kn gk kp tx ln iz wy (dsF g 4) tt rr we sp wr er).flatten) := by
  refine zj_startF RX7 (by decide +kernel) rfl rfl rfl (bs := (mB G m g ga gh kn gk kp tx ln iz wy wa tt rr we sp wr er)) rfl (lo := [some (.ref (m 0)), none, none, none, none]) rfl ?_
  intro p0 e0 s0 m0 args0 below0 meth0 c0 A0 C hr hlocks
  have hk : kL g ≤ 25 := hv.1
  have hke : kL g = g 14 := rfl
  have hl := Vk_l hv
  refine zj_iconst (pc := 0) (v := nI 0) C dX7_worksOutAll_0 (by decide) ?_
  refine zj_istore_n (pc := 1) C dX7_worksOutAll_1 (Nat.le_of_ble_eq_true rfl) ?_
  refine zj_blk (bs' := (mB G m g ga gh kn gk kp tx ln iz wy (blk wa 0 (inK (in0 g 4) wa (0))) tt rr we sp wr er)) (by rw [blk_00]) ?_
  refine zj_keep [true, true, false, false, false] ?_
  refine zq_loop1 (fun (k : Nat) => k ≤ 196) (fun (k : Nat) => 196 - k) (fun (k : Nat) => (mB G m g ga gh kn gk kp tx ln iz wy (blk wa 0 (inK (in0 g 4) wa (k))) tt rr we sp wr er)) (fun (k : Nat) => [some (.ref (m 0)), some (.int (nI (k))), none, none, none]) ?_ 0 (Nat.zero_le _)
  intro k hI ih_2
  refine zj_iload_n (pc := 2) C dX7_worksOutAll_2 rfl ?_
  refine zj_sipush (pc := 3) (v := nI 196) C dX7_worksOutAll_3 (by decide) ?_
  refine zq_icmp_ge (pc := 6) 38 C dX7_worksOutAll_6 (by decide) (by omega) (by omega) (fun c_6 => ?_) (fun c_6 => ?_)
  · refine zj_iconst (pc := 38) (v := nI 0) C dX7_worksOutAll_38 (by decide) ?_
    refine zj_istore_n (pc := 39) C dX7_worksOutAll_39 (Nat.le_of_ble_eq_true rfl) ?_
    refine zj_blk (bs' := (mB G m g ga gh kn gk kp tx ln iz wy (blk wa 0 (jnE g (pL g 4) (in0 g 4) (0))) tt rr we sp wr er)) (by rw [show k = 196 by omega, blk_0e]; rfl) ?_
    refine zj_keep [true, true, false, false, false] ?_
    refine zq_loop1 (fun (i : Nat) => i ≤ kL g) (fun (i : Nat) => kL g - i) (fun (i : Nat) => (mB G m g ga gh kn gk kp tx ln iz wy (blk wa 0 (jnE g (pL g 4) (in0 g 4) (i))) tt rr we sp wr er)) (fun (i : Nat) => [some (.ref (m 0)), some (.int (nI (i))), none, none, none]) ?_ 0 (Nat.zero_le _)
    intro i hI ih_40
    refine zj_iload_n (pc := 40) C dX7_worksOutAll_40 rfl ?_
    refine zj_aload_n (pc := 41) C dX7_worksOutAll_41 rfl ?_
    refine gf_X7_0 (pc := 42) C dX7_worksOutAll_42 0 rfl ?_
    refine zj_bipush (pc := 45) (v := nI 14) C dX7_worksOutAll_45 (by decide) ?_
    refine zq_iald (pc := 47) C dX7_worksOutAll_47 1 rfl (by omega) (by decide) ?_
    refine zq_icmp_ge (pc := 48) 155 C dX7_worksOutAll_48 (by decide) (by omega) (by omega) (fun c_48 => ?_) (fun c_48 => ?_)
    · refine zj_iconst (pc := 155) (v := nI 0) C dX7_worksOutAll_155 (by decide) ?_
      refine zj_istore_n (pc := 156) C dX7_worksOutAll_156 (Nat.le_of_ble_eq_true rfl) ?_
      have hi9 : i = kL g := by omega
      refine zj_blk (bs' := (mB G m g ga gh kn gk kp tx ln iz wy (blk wa 0 (mxF (fwN (fwE g 4) (0 / 196)) (0 / 196) (0 % 196))) tt rr we sp wr er)) (by rw [← fw_0, hi9]; rfl) ?_
      clear hi9
      refine zj_keep [true, true, false, false, false] ?_
      refine zq_loop1 (fun (k : Nat) => k ≤ 2744) (fun (k : Nat) => 2744 - k) (fun (k : Nat) => (mB G m g ga gh kn gk kp tx ln iz wy (blk wa 0 (mxF (fwN (fwE g 4) (k / 196)) (k / 196) (k % 196))) tt rr we sp wr er)) (fun (k : Nat) => [some (.ref (m 0)), some (.int (nI (k))), none, none, none]) ?_ 0 (Nat.zero_le _)
      intro k hI ih_157
      refine zj_iload_n (pc := 157) C dX7_worksOutAll_157 rfl ?_
      refine zj_sipush (pc := 158) (v := nI 2744) C dX7_worksOutAll_158 (by decide) ?_
      refine zq_icmp_ge (pc := 161) 253 C dX7_worksOutAll_161 (by decide) (by omega) (by omega) (fun c_161 => ?_) (fun c_161 => ?_)
      · refine zq_row 8 (dsF g 4) rfl (fun j hj => ?_) ?_
        · rw [show k = 2744 by omega, fw_end hl (by omega)]
          exact (congrArg _ (by omega : j = 196 * 0 + j)).trans (blk_at hj)
        refine zj_blk (bs' := (mB G m g ga gh kn gk kp tx ln iz wy (dsF g 4) tt rr we sp wr er)) rfl ?_
        exact zj_vretF C hr hlocks dX7_worksOutAll_253 rfl
      · have b1 := fwE_1M hl (d := 4) (v := k / 196) (14 * (k / 14 % 14) + k / 196)
        have b2 := fwE_1M hl (d := 4) (v := k / 196) (14 * (k / 196) + k % 14)
        have b3 := fwE_1M hl (d := 4) (v := k / 196) (14 * (k / 14 % 14) + k % 14)
        have e1 : blk wa 0 (mxF (fwN (fwE g 4) (k / 196)) (k / 196) (k % 196)) (196 * 0 + 14 * (k / 14 % 14) + k / 196) = fwN (fwE g 4) (k / 196) (14 * (k / 14 % 14) + k / 196) := by rw [bk_at (by omega) (by omega), mx_c (by omega)]
        have e2 : blk wa 0 (mxF (fwN (fwE g 4) (k / 196)) (k / 196) (k % 196)) (196 * 0 + 14 * (k / 196) + k % 14) = fwN (fwE g 4) (k / 196) (14 * (k / 196) + k % 14) := by rw [bk_at (by omega) (by omega), mx_r (by omega)]
        have e3 : blk wa 0 (mxF (fwN (fwE g 4) (k / 196)) (k / 196) (k % 196)) (196 * 0 + 14 * (k / 14 % 14) + k % 14) = fwN (fwE g 4) (k / 196) (14 * (k / 14 % 14) + k % 14) := by rw [bk_at (by omega) (by omega), fw_cur]
        refine zj_iload_n (pc := 164) C dX7_worksOutAll_164 rfl ?_
        refine zj_bipush (pc := 165) (v := nI 14) C dX7_worksOutAll_165 (by decide) ?_
        refine zq_idiv (pc := 167) C dX7_worksOutAll_167 (by omega) (by decide) (by decide) ?_
        refine zj_bipush (pc := 168) (v := nI 14) C dX7_worksOutAll_168 (by decide) ?_
        refine zq_irem (pc := 170) C dX7_worksOutAll_170 (by omega) (by decide) (by decide) ?_
        refine zj_istore_n (pc := 171) C dX7_worksOutAll_171 (Nat.le_of_ble_eq_true rfl) ?_
        refine zj_aload_n (pc := 172) C dX7_worksOutAll_172 rfl ?_
        refine gf_X7_10 (pc := 173) C dX7_worksOutAll_173 0 rfl ?_
        refine zj_iconst (pc := 176) (v := nI 0) C dX7_worksOutAll_176 (by decide) ?_
        refine zj_iload_n (pc := 177) C dX7_worksOutAll_177 rfl ?_
        refine zj_iload_n (pc := 178) C dX7_worksOutAll_178 rfl ?_
        refine zj_sipush (pc := 179) (v := nI 196) C dX7_worksOutAll_179 (by decide) ?_
        refine zq_idiv (pc := 182) C dX7_worksOutAll_182 (by omega) (by decide) (by decide) ?_
        refine zj_callSF (pc := 183) C kv_X7_67 (m_X7_at) dX7_worksOutAll_183 rfl rfl rfl rfl rfl rfl ?_
        refine zq_iald (pc := 186) C dX7_worksOutAll_186 8 rfl (by omega) (by decide) ?_
        refine zj_aload_n (pc := 187) C dX7_worksOutAll_187 rfl ?_
        refine gf_X7_10 (pc := 188) C dX7_worksOutAll_188 0 rfl ?_
        refine zj_iconst (pc := 191) (v := nI 0) C dX7_worksOutAll_191 (by decide) ?_
        refine zj_iload_n (pc := 192) C dX7_worksOutAll_192 rfl ?_
        refine zj_sipush (pc := 193) (v := nI 196) C dX7_worksOutAll_193 (by decide) ?_
        refine zq_idiv (pc := 196) C dX7_worksOutAll_196 (by omega) (by decide) (by decide) ?_
        refine zj_iload_n (pc := 197) C dX7_worksOutAll_197 rfl ?_
        refine zj_bipush (pc := 198) (v := nI 14) C dX7_worksOutAll_198 (by decide) ?_
        refine zq_irem (pc := 200) C dX7_worksOutAll_200 (by omega) (by decide) (by decide) ?_
        refine zj_callSF (pc := 201) C kv_X7_67 (m_X7_at) dX7_worksOutAll_201 rfl rfl rfl rfl rfl rfl ?_
        refine zq_iald (pc := 204) C dX7_worksOutAll_204 8 rfl (by omega) (by decide) ?_
        refine zq_iadd (pc := 205) C dX7_worksOutAll_205 ?_
        refine zj_istore_n (pc := 206) C dX7_worksOutAll_206 (Nat.le_of_ble_eq_true rfl) ?_
        refine zj_iconst (pc := 207) (v := nI 0) C dX7_worksOutAll_207 (by decide) ?_
        refine zj_iload_n (pc := 208) C dX7_worksOutAll_208 rfl ?_
        refine zj_iload_n (pc := 209) C dX7_worksOutAll_209 rfl ?_
        refine zj_bipush (pc := 210) (v := nI 14) C dX7_worksOutAll_210 (by decide) ?_
        refine zq_irem (pc := 212) C dX7_worksOutAll_212 (by omega) (by decide) (by decide) ?_
        refine zj_callSF (pc := 213) C kv_X7_67 (m_X7_at) dX7_worksOutAll_213 rfl rfl rfl rfl rfl rfl ?_
        refine zj_istore (pc := 216) C dX7_worksOutAll_216 (Nat.le_of_ble_eq_true rfl) ?_
        refine zj_aload_n (pc := 218) C dX7_worksOutAll_218 rfl ?_
        refine gf_X7_10 (pc := 219) C dX7_worksOutAll_219 0 rfl ?_
        refine zj_iload (pc := 222) C dX7_worksOutAll_222 rfl ?_
        refine zq_mrg 246 [.int (nI (196 * 0 + 14 * ((k / 14) % 14) + (k % 14))), .ref (m 8)] (nI (min (fwN (fwE g 4) (k / 196) (14 * (k / 14 % 14) + k % 14)) (fwN (fwE g 4) (k / 196) (14 * (k / 14 % 14) + k / 196) + fwN (fwE g 4) (k / 196) (14 * (k / 196) + k % 14)))) ?_ (fun kk => ?_)
        · refine zq_iast (pc := 246) C dX7_worksOutAll_246 8 rfl (by omega) (by decide) ?_
          refine zj_blk (bs' := (mB G m g ga gh kn gk kp tx ln iz wy (updN (blk wa 0 (mxF (fwN (fwE g 4) (k / 196)) (k / 196) (k % 196))) (196 * 0 + 14 * ((k / 14) % 14) + (k % 14)) (min (fwN (fwE g 4) (k / 196) (14 * (k / 14 % 14) + k % 14)) (fwN (fwE g 4) (k / 196) (14 * (k / 14 % 14) + k / 196) + fwN (fwE g 4) (k / 196) (14 * (k / 196) + k % 14)))) tt rr we sp wr er)) rfl ?_
          refine zj_iinc (pc := 247) (v := nI (k + 1)) C dX7_worksOutAll_247 rfl (nI_1 _) ?_
          refine zj_goto (pc := 250) (tgt := 157) C dX7_worksOutAll_250 (by decide) ?_
          refine zj_blk (bs' := (mB G m g ga gh kn gk kp tx ln iz wy (blk wa 0 (mxF (fwN (fwE g 4) ((k + 1) / 196)) ((k + 1) / 196) ((k + 1) % 196))) tt rr we sp wr er)) (by rw [← fw_st (by omega)]) ?_
          refine zj_keep [true, true, false, false, false] ?_
          exact ih_157 (k + 1) (by omega) (by omega)
        · refine zj_iload_n (pc := 224) C dX7_worksOutAll_224 rfl ?_
          refine zj_aload_n (pc := 225) C dX7_worksOutAll_225 rfl ?_
          refine gf_X7_10 (pc := 226) C dX7_worksOutAll_226 0 rfl ?_
          refine zj_iload (pc := 229) C dX7_worksOutAll_229 rfl ?_
          refine zq_iald (pc := 231) C dX7_worksOutAll_231 8 rfl (by omega) (by decide) ?_
          refine zq_icmp_ge (pc := 232) 239 C dX7_worksOutAll_232 (by decide) (by omega) (by omega) (fun c_232 => ?_) (fun c_232 => ?_)
          · refine zj_aload_n (pc := 239) C dX7_worksOutAll_239 rfl ?_
            refine gf_X7_10 (pc := 240) C dX7_worksOutAll_240 0 rfl ?_
            refine zj_iload (pc := 243) C dX7_worksOutAll_243 rfl ?_
            refine zq_iald (pc := 245) C dX7_worksOutAll_245 8 rfl (by omega) (by decide) ?_
            exact zj_top (x' := nI (min (fwN (fwE g 4) (k / 196) (14 * (k / 14 % 14) + k % 14)) (fwN (fwE g 4) (k / 196) (14 * (k / 14 % 14) + k / 196) + fwN (fwE g 4) (k / 196) (14 * (k / 196) + k % 14)))) (congrArg nI (by omega)) kk
          · refine zj_iload_n (pc := 235) C dX7_worksOutAll_235 rfl ?_
            refine zj_goto (pc := 236) (tgt := 246) C dX7_worksOutAll_236 (by decide) ?_
            exact zj_top (x' := nI (min (fwN (fwE g 4) (k / 196) (14 * (k / 14 % 14) + k % 14)) (fwN (fwE g 4) (k / 196) (14 * (k / 14 % 14) + k / 196) + fwN (fwE g 4) (k / 196) (14 * (k / 196) + k % 14)))) (congrArg nI (by omega)) kk
    · obtain ⟨h25, x0, x1, x2, l1, l2, l3, -⟩ := Vk_x hv (show i < kL g by omega)
      have eAB : blk wa 0 (jnE g (pL g 4) (in0 g 4) i) (196 * 0 + 14 * lnC g i 0 + lnC g i 1) = jnE g (pL g 4) (in0 g 4) i (14 * lnC g i 0 + lnC g i 1) := bk_at x0 x1
      have bM := jnE_1M (p := pL g 4) (M := in0 g 4) (fun k => in0_le) (lok_le hl (show i ≤ kL g by omega)) (14 * lnC g i 0 + lnC g i 1)
      have hstep : updN (updN (jnE g (pL g 4) (in0 g 4) i) (14 * lnC g i 0 + lnC g i 1) (if (told g i && decide (lnC g i 2 < jnE g (pL g 4) (in0 g 4) i (14 * lnC g i 0 + lnC g i 1))) = true then lnC g i 2 else jnE g (pL g 4) (in0 g 4) i (14 * lnC g i 0 + lnC g i 1))) (14 * lnC g i 1 + lnC g i 0) (if (told g i && decide (lnC g i 2 < jnE g (pL g 4) (in0 g 4) i (14 * lnC g i 0 + lnC g i 1))) = true then lnC g i 2 else jnE g (pL g 4) (in0 g 4) i (14 * lnC g i 0 + lnC g i 1)) = jnE g (pL g 4) (in0 g 4) (i + 1) := by
        by_cases ht : told g i = true
        · rw [jnE_t (pL_t.mpr ⟨ht, Or.inl rfl⟩), ht, Bool.true_and]
          have e9 : (if decide (lnC g i 2 < jnE g (pL g 4) (in0 g 4) i (14 * lnC g i 0 + lnC g i 1)) = true then lnC g i 2 else jnE g (pL g 4) (in0 g 4) i (14 * lnC g i 0 + lnC g i 1)) = min (lnC g i 2) (jnE g (pL g 4) (in0 g 4) i (14 * lnC g i 0 + lnC g i 1)) := by simp only [decide_eq_true_eq]; split <;> omega
          rw [e9]; rfl
        · have hf : told g i = false := by simpa using ht
          rw [jnE_f (show pL g 4 i = false by unfold pL; rw [hf]; rfl), hf, Bool.false_and, if_neg (by decide)]
          exact jn_no (jnE_sym (fun x y hx hy => in0_sym hx hy) (lok_le hl (show i ≤ kL g by omega)) _ _ x1 x0)
      refine zj_iconst (pc := 51) (v := nI 0) C dX7_worksOutAll_51 (by decide) ?_
      refine zj_aload_n (pc := 52) C dX7_worksOutAll_52 rfl ?_
      refine zj_iload_n (pc := 53) C dX7_worksOutAll_53 rfl ?_
      refine zj_iconst (pc := 54) (v := nI 0) C dX7_worksOutAll_54 (by decide) ?_
      refine zq_callP (pc := 55) C kv_X7_51 (m_X7_of (by omega) (by decide)) dX7_worksOutAll_55 rfl rfl rfl rfl rfl rfl ⟨0, rfl⟩ rfl rfl ?_
      refine zj_aload_n (pc := 58) C dX7_worksOutAll_58 rfl ?_
      refine zj_iload_n (pc := 59) C dX7_worksOutAll_59 rfl ?_
      refine zj_iconst (pc := 60) (v := nI 1) C dX7_worksOutAll_60 (by decide) ?_
      refine zq_callP (pc := 61) C kv_X7_51 (m_X7_of (by omega) (by decide)) dX7_worksOutAll_61 rfl rfl rfl rfl rfl rfl ⟨0, rfl⟩ rfl rfl ?_
      refine zj_callSF (pc := 64) C kv_X7_67 (m_X7_at) dX7_worksOutAll_64 rfl rfl rfl rfl rfl rfl ?_
      refine zj_istore_n (pc := 67) C dX7_worksOutAll_67 (Nat.le_of_ble_eq_true rfl) ?_
      refine zq_mrg 96 [] (bI (told g i && decide (lnC g i 2 < jnE g (pL g 4) (in0 g 4) i (14 * lnC g i 0 + lnC g i 1)))) ?_ (fun kk => ?_)
      · refine zj_istore_n (pc := 96) C dX7_worksOutAll_96 (Nat.le_of_ble_eq_true rfl) ?_
        refine zj_aload_n (pc := 97) C dX7_worksOutAll_97 rfl ?_
        refine gf_X7_10 (pc := 98) C dX7_worksOutAll_98 0 rfl ?_
        refine zj_iload_n (pc := 101) C dX7_worksOutAll_101 rfl ?_
        refine zq_mrg 121 [.int (nI (196 * 0 + 14 * (lnC g i 0) + (lnC g i 1))), .ref (m 8)] (nI ((if (told g i && decide (lnC g i 2 < jnE g (pL g 4) (in0 g 4) i (14 * lnC g i 0 + lnC g i 1))) = true then lnC g i 2 else jnE g (pL g 4) (in0 g 4) i (14 * lnC g i 0 + lnC g i 1)))) ?_ (fun kk => ?_)
        · refine zq_iast (pc := 121) C dX7_worksOutAll_121 8 rfl (by omega) (by decide) ?_
          refine zj_blk (bs' := (mB G m g ga gh kn gk kp tx ln iz wy (updN (blk wa 0 (jnE g (pL g 4) (in0 g 4) (i))) (196 * 0 + 14 * (lnC g i 0) + (lnC g i 1)) (if (told g i && decide (lnC g i 2 < jnE g (pL g 4) (in0 g 4) i (14 * lnC g i 0 + lnC g i 1))) = true then lnC g i 2 else jnE g (pL g 4) (in0 g 4) i (14 * lnC g i 0 + lnC g i 1))) tt rr we sp wr er)) rfl ?_
          refine zj_aload_n (pc := 122) C dX7_worksOutAll_122 rfl ?_
          refine gf_X7_10 (pc := 123) C dX7_worksOutAll_123 0 rfl ?_
          refine zj_iconst (pc := 126) (v := nI 0) C dX7_worksOutAll_126 (by decide) ?_
          refine zj_aload_n (pc := 127) C dX7_worksOutAll_127 rfl ?_
          refine zj_iload_n (pc := 128) C dX7_worksOutAll_128 rfl ?_
          refine zj_iconst (pc := 129) (v := nI 1) C dX7_worksOutAll_129 (by decide) ?_
          refine zq_callP (pc := 130) C kv_X7_51 (m_X7_of (by omega) (by decide)) dX7_worksOutAll_130 rfl rfl rfl rfl rfl rfl ⟨0, rfl⟩ rfl rfl ?_
          refine zj_aload_n (pc := 133) C dX7_worksOutAll_133 rfl ?_
          refine zj_iload_n (pc := 134) C dX7_worksOutAll_134 rfl ?_
          refine zj_iconst (pc := 135) (v := nI 0) C dX7_worksOutAll_135 (by decide) ?_
          refine zq_callP (pc := 136) C kv_X7_51 (m_X7_of (by omega) (by decide)) dX7_worksOutAll_136 rfl rfl rfl rfl rfl rfl ⟨0, rfl⟩ rfl rfl ?_
          refine zj_callSF (pc := 139) C kv_X7_67 (m_X7_at) dX7_worksOutAll_139 rfl rfl rfl rfl rfl rfl ?_
          refine zj_aload_n (pc := 142) C dX7_worksOutAll_142 rfl ?_
          refine gf_X7_10 (pc := 143) C dX7_worksOutAll_143 0 rfl ?_
          refine zj_iload_n (pc := 146) C dX7_worksOutAll_146 rfl ?_
          refine zq_iald (pc := 147) C dX7_worksOutAll_147 8 rfl (by omega) (by decide) ?_
          refine zq_iast (pc := 148) C dX7_worksOutAll_148 8 rfl (by omega) (by decide) ?_
          refine zj_blk (bs' := (mB G m g ga gh kn gk kp tx ln iz wy (updN (updN (blk wa 0 (jnE g (pL g 4) (in0 g 4) (i))) (196 * 0 + 14 * (lnC g i 0) + (lnC g i 1)) (if (told g i && decide (lnC g i 2 < jnE g (pL g 4) (in0 g 4) i (14 * lnC g i 0 + lnC g i 1))) = true then lnC g i 2 else jnE g (pL g 4) (in0 g 4) i (14 * lnC g i 0 + lnC g i 1))) (196 * 0 + 14 * (lnC g i 1) + (lnC g i 0)) ((updN (blk wa 0 (jnE g (pL g 4) (in0 g 4) (i))) (196 * 0 + 14 * (lnC g i 0) + (lnC g i 1)) (if (told g i && decide (lnC g i 2 < jnE g (pL g 4) (in0 g 4) i (14 * lnC g i 0 + lnC g i 1))) = true then lnC g i 2 else jnE g (pL g 4) (in0 g 4) i (14 * lnC g i 0 + lnC g i 1))) (196 * 0 + 14 * (lnC g i 0) + (lnC g i 1)))) tt rr we sp wr er)) rfl ?_
          refine zj_iinc (pc := 149) (v := nI (i + 1)) C dX7_worksOutAll_149 rfl (nI_1 _) ?_
          refine zj_goto (pc := 152) (tgt := 40) C dX7_worksOutAll_152 (by decide) ?_
          refine zj_blk (bs' := (mB G m g ga gh kn gk kp tx ln iz wy (blk wa 0 (jnE g (pL g 4) (in0 g 4) (i + 1))) tt rr we sp wr er)) (by rw [uN_s, Nat.mul_zero, Nat.zero_add, Nat.zero_add, blk_upd0 (by omega), blk_upd0 (by omega), hstep]) ?_
          refine zj_keep [true, true, false, false, false] ?_
          exact ih_40 (i + 1) (by omega) (by omega)
        · refine zj_iload_n (pc := 102) C dX7_worksOutAll_102 rfl ?_
          refine zj_ifb_eq (pc := 103) 115 C dX7_worksOutAll_103 (by decide) (fun c_103 => ?_) (fun c_103 => ?_)
          · refine zj_aload_n (pc := 115) C dX7_worksOutAll_115 rfl ?_
            refine gf_X7_10 (pc := 116) C dX7_worksOutAll_116 0 rfl ?_
            refine zj_iload_n (pc := 119) C dX7_worksOutAll_119 rfl ?_
            refine zq_iald (pc := 120) C dX7_worksOutAll_120 8 rfl (by omega) (by decide) ?_
            exact zj_top (x' := nI ((if (told g i && decide (lnC g i 2 < jnE g (pL g 4) (in0 g 4) i (14 * lnC g i 0 + lnC g i 1))) = true then lnC g i 2 else jnE g (pL g 4) (in0 g 4) i (14 * lnC g i 0 + lnC g i 1)))) (congrArg nI (by rw [if_neg (by rw [c_103]; decide)]; exact eAB)) kk
          · refine zj_aload_n (pc := 106) C dX7_worksOutAll_106 rfl ?_
            refine zj_iload_n (pc := 107) C dX7_worksOutAll_107 rfl ?_
            refine zj_iconst (pc := 108) (v := nI 2) C dX7_worksOutAll_108 (by decide) ?_
            refine zq_callP (pc := 109) C kv_X7_51 (m_X7_of (by omega) (by decide)) dX7_worksOutAll_109 rfl rfl rfl rfl rfl rfl ⟨0, rfl⟩ rfl rfl ?_
            refine zj_goto (pc := 112) (tgt := 121) C dX7_worksOutAll_112 (by decide) ?_
            exact zj_top (x' := nI ((if (told g i && decide (lnC g i 2 < jnE g (pL g 4) (in0 g 4) i (14 * lnC g i 0 + lnC g i 1))) = true then lnC g i 2 else jnE g (pL g 4) (in0 g 4) i (14 * lnC g i 0 + lnC g i 1)))) (congrArg nI (by rw [if_pos c_103])) kk
      · refine zj_aload_n (pc := 68) C dX7_worksOutAll_68 rfl ?_
        refine zj_iload_n (pc := 69) C dX7_worksOutAll_69 rfl ?_
        refine zq_callP (pc := 70) C kv_X7_59 (m_X7_isTold hv (by omega)) dX7_worksOutAll_70 rfl rfl rfl rfl rfl rfl ⟨0, rfl⟩ rfl rfl ?_
        refine zj_ifb_eq (pc := 73) 95 C dX7_worksOutAll_73 (by decide) (fun c_73 => ?_) (fun c_73 => ?_)
        · refine zj_iconst (pc := 95) (v := nI 0) C dX7_worksOutAll_95 (by decide) ?_
          exact zj_top (x' := bI (told g i && decide (lnC g i 2 < jnE g (pL g 4) (in0 g 4) i (14 * lnC g i 0 + lnC g i 1)))) (zq_f (by rw [c_73]; rfl)) kk
        · refine zj_aload_n (pc := 76) C dX7_worksOutAll_76 rfl ?_
          refine zj_iload_n (pc := 77) C dX7_worksOutAll_77 rfl ?_
          refine zj_iconst (pc := 78) (v := nI 2) C dX7_worksOutAll_78 (by decide) ?_
          refine zq_callP (pc := 79) C kv_X7_51 (m_X7_of (by omega) (by decide)) dX7_worksOutAll_79 rfl rfl rfl rfl rfl rfl ⟨0, rfl⟩ rfl rfl ?_
          refine zj_aload_n (pc := 82) C dX7_worksOutAll_82 rfl ?_
          refine gf_X7_10 (pc := 83) C dX7_worksOutAll_83 0 rfl ?_
          refine zj_iload_n (pc := 86) C dX7_worksOutAll_86 rfl ?_
          refine zq_iald (pc := 87) C dX7_worksOutAll_87 8 rfl (by omega) (by decide) ?_
          refine zq_icmp_ge (pc := 88) 95 C dX7_worksOutAll_88 (by decide) (by omega) (by omega) (fun c_88 => ?_) (fun c_88 => ?_)
          · refine zj_iconst (pc := 95) (v := nI 0) C dX7_worksOutAll_95 (by decide) ?_
            exact zj_top (x' := bI (told g i && decide (lnC g i 2 < jnE g (pL g 4) (in0 g 4) i (14 * lnC g i 0 + lnC g i 1)))) (zq_f (by rw [c_73, Bool.true_and]; simp; omega)) kk
          · refine zj_iconst (pc := 91) (v := nI 1) C dX7_worksOutAll_91 (by decide) ?_
            refine zj_goto (pc := 92) (tgt := 96) C dX7_worksOutAll_92 (by decide) ?_
            exact zj_top (x' := bI (told g i && decide (lnC g i 2 < jnE g (pL g 4) (in0 g 4) i (14 * lnC g i 0 + lnC g i 1)))) (zq_t (by rw [c_73, Bool.true_and]; simp; omega)) kk
  · refine zj_aload_n (pc := 9) C dX7_worksOutAll_9 rfl ?_
    refine gf_X7_10 (pc := 10) C dX7_worksOutAll_10 0 rfl ?_
    refine zj_iload_n (pc := 13) C dX7_worksOutAll_13 rfl ?_
    refine zq_mrg 31 [.int (nI (k)), .ref (m 8)] (nI (in0 g 4 k)) ?_ (fun kk => ?_)
    · refine zq_iast (pc := 31) C dX7_worksOutAll_31 8 rfl (by omega) (by decide) ?_
      refine zj_blk (bs' := (mB G m g ga gh kn gk kp tx ln iz wy (updN (blk wa 0 (inK (in0 g 4) wa (k))) k (in0 g 4 k)) tt rr we sp wr er)) rfl ?_
      refine zj_iinc (pc := 32) (v := nI (k + 1)) C dX7_worksOutAll_32 rfl (nI_1 _) ?_
      refine zj_goto (pc := 35) (tgt := 2) C dX7_worksOutAll_35 (by decide) ?_
      refine zj_blk (bs' := (mB G m g ga gh kn gk kp tx ln iz wy (blk wa 0 (inK (in0 g 4) wa (k + 1))) tt rr we sp wr er)) (by rw [blk_upd0 (by omega), inK_s]) ?_
      refine zj_keep [true, true, false, false, false] ?_
      exact ih_2 (k + 1) (by omega) (by omega)
    · refine zj_iload_n (pc := 14) C dX7_worksOutAll_14 rfl ?_
      refine zj_bipush (pc := 15) (v := nI 14) C dX7_worksOutAll_15 (by decide) ?_
      refine zq_idiv (pc := 17) C dX7_worksOutAll_17 (by omega) (by decide) (by decide) ?_
      refine zj_iload_n (pc := 18) C dX7_worksOutAll_18 rfl ?_
      refine zj_bipush (pc := 19) (v := nI 14) C dX7_worksOutAll_19 (by decide) ?_
      refine zq_irem (pc := 21) C dX7_worksOutAll_21 (by omega) (by decide) (by decide) ?_
      refine zq_icmp_ne (pc := 22) 29 C dX7_worksOutAll_22 (by decide) (by omega) (by omega) (fun c_22 => ?_) (fun c_22 => ?_)
      · refine zj_ldc (pc := 29) (v := nI 1000000) C dX7_worksOutAll_29 aq_1022 ?_
        exact zj_top (x' := nI (in0 g 4 k)) (congrArg nI (show in0 g 4 k = 1000000 from if_neg (fun q => c_22 q.1)).symm) kk
      · refine zj_iconst (pc := 25) (v := nI 0) C dX7_worksOutAll_25 (by decide) ?_
        refine zj_goto (pc := 26) (tgt := 31) C dX7_worksOutAll_26 (by decide) ?_
        exact zj_top (x' := nI (in0 g 4 k)) (congrArg nI (show in0 g 4 k = 0 from if_pos ⟨c_22, Or.inl rfl⟩).symm) kk
