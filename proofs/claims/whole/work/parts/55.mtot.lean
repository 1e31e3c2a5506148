/-! THE REFERENCE'S TOTALS -/
def gateK (g : Nat → Nat) (d k : Nat) : Bool := decide (0 < d) && (inn g d k && inn g 0 k)
def bgN (g : Nat → Nat) (x al k : Nat) : Nat := if gateK g (alC g al 2) k = true then dst g 0 x k + dst g (alC g al 2) k (alC g al 0) + alC g al 1 else 1000000
def bdN (g N : Nat → Nat) (x k d : Nat) : Nat := if gateK g d k = true then dst g d x k + N k else 1000000
def mnF (f : Nat → Nat) : Nat → Nat
  | 0 => 1000000
  | k + 1 => min (f k) (mnF f k)
theorem mnF_le (f : Nat → Nat) : ∀ n, mnF f n ≤ 1000000
  | 0 => Nat.le_refl _
  | n + 1 => Nat.le_trans (Nat.min_le_right _ _) (mnF_le f n)
def WN (g : Nat → Nat) (al x : Nat) : Nat := dst g (alC g al 2) x (alC g al 0) + alC g al 1
def LN (g : Nat → Nat) (al x : Nat) : Nat := if inn g 0 x = true then mnF (bgN g x al) 14 else 1000000
def NT (g : Nat → Nat) (al x : Nat) : Nat := if WN g al x < 1000000 then WN g al x else LN g al x
def NS (g : Nat → Nat) (al x : Nat) : Nat := stS (NT g al x)
def NR (g : Nat → Nat) (al x : Nat) : Nat := stR (NT g al x) (if WN g al x < 1000000 then 1 else 2)
def LF (g N : Nat → Nat) (x : Nat) : Nat := mnF (fun j => bdN g N x ((14 + j) % 14) ((14 + j) / 14)) 42
def FS (g : Nat → Nat) (al x : Nat) : Nat := if NR g al x = 0 ∧ inn g 0 x = false then stS (LF g (NS g al) x) else NS g al x
def FR (g : Nat → Nat) (al x : Nat) : Nat := if NR g al x = 0 ∧ inn g 0 x = false then stR (LF g (NS g al) x) 3 else NR g al x
def nrI (F : Nat → Nat) (al x : Nat) (t : Nat → Nat) : Nat → Nat := fun k => if k / 14 = al ∧ k % 14 < x then F (k % 14) else t k
theorem nrI_0 {F t : Nat → Nat} {al : Nat} : nrI F al 0 t = t := by
  funext k
  exact if_neg (by omega)
theorem nrI_s {F t : Nat → Nat} {al x : Nat} (hx : x < 14) : updN (nrI F al x t) (14 * al + x) (F x) = nrI F al (x + 1) t := by
  funext k
  unfold updN nrI
  by_cases h : k = 14 * al + x
  · subst h
    rw [if_pos rfl, if_pos (by omega), show (14 * al + x) % 14 = x by omega]
  · rw [if_neg h]
    by_cases h2 : k / 14 = al ∧ k % 14 < x
    · rw [if_pos h2, if_pos (by omega)]
    · rw [if_neg h2, if_neg (by omega)]
theorem nrI_n {F t : Nat → Nat} {al x : Nat} (hx : x < 14) (h : t (14 * al + x) = F x) : nrI F al x t = nrI F al (x + 1) t := by
  funext k
  unfold nrI
  by_cases h2 : k / 14 = al ∧ k % 14 < x
  · rw [if_pos h2, if_pos (by omega)]
  · rw [if_neg h2]
    by_cases h3 : k / 14 = al ∧ k % 14 < x + 1
    · rw [if_pos h3, show k % 14 = x by omega, ← h]
      congr 1
      omega
    · rw [if_neg h3]
theorem nrI_at {F t : Nat → Nat} {al x y : Nat} (hy : y < 14) : nrI F al x t (14 * al + y) = if y < x then F y else t (14 * al + y) := by
  unfold nrI
  rw [show (14 * al + y) / 14 = al by omega, show (14 * al + y) % 14 = y by omega]
  by_cases h : y < x
  · rw [if_pos h, if_pos ⟨rfl, h⟩]
  · rw [if_neg h, if_neg (by omega)]
theorem nrI_2 {F F2 t : Nat → Nat} {al : Nat} : nrI F2 al 14 (nrI F al 14 t) = nrI F2 al 14 t := by
  funext k
  unfold nrI
  by_cases h : k / 14 = al ∧ k % 14 < 14
  · rw [if_pos h, if_pos h]
  · rw [if_neg h, if_neg h, if_neg h]
def ttI (F : Nat → Nat → Nat) (n : Nat) (t : Nat → Nat) : Nat → Nat := fun k => if k / 14 < n then F (k / 14) (k % 14) else t k
theorem ttI_0 {F : Nat → Nat → Nat} {t : Nat → Nat} : ttI F 0 t = t := by
  funext k
  exact if_neg (by omega)
theorem ttI_s {F : Nat → Nat → Nat} {n : Nat} {t : Nat → Nat} : nrI (F n) n 14 (ttI F n t) = ttI F (n + 1) t := by
  funext k
  unfold nrI ttI
  by_cases h : k / 14 = n ∧ k % 14 < 14
  · rw [if_pos h, if_pos (by omega), h.1]
  · rw [if_neg h]
    by_cases h2 : k / 14 < n
    · rw [if_pos h2, if_pos (by omega)]
    · rw [if_neg h2, if_neg (by omega)]
theorem ttI_at {F : Nat → Nat → Nat} {n al x : Nat} {t : Nat → Nat} (ha : al < n) (hx : x < 14) : ttI F n t (14 * al + x) = F al x := by
  unfold ttI
  rw [if_pos (by omega), show (14 * al + x) / 14 = al by omega, show (14 * al + x) % 14 = x by omega]
def ttV (g t : Nat → Nat) : Nat → Nat := ttI (FS g) (kA g) t
def rrV (g t : Nat → Nat) : Nat → Nat := ttI (FR g) (kA g) t
def wyI (g w : Nat → Nat) (d : Nat) : Nat → Nat := fun k => if k < 196 * d then wyV g k else w k
theorem wyI_0 {g w : Nat → Nat} : wyI g w 0 = w := by
  funext k
  exact if_neg (by omega)
theorem wyI_s {g w : Nat → Nat} {d : Nat} : blk (wyI g w d) d (dsF g d) = wyI g w (d + 1) := by
  funext k
  unfold blk wyI
  by_cases h : 196 * d ≤ k ∧ k < 196 * d + 196
  · rw [if_pos h, if_pos (by omega)]
    unfold dsF wyV
    rw [show k / 196 = d by omega, show (k - 196 * d) / 14 = k / 14 % 14 by omega, show (k - 196 * d) % 14 = k % 14 by omega]
  · rw [if_neg h]
    by_cases h2 : k < 196 * d
    · rw [if_pos h2, if_pos (by omega)]
    · rw [if_neg h2, if_neg (by omega)]
theorem dst_1M {g : Nat → Nat} (hl : lok g (kL g)) {d x y : Nat} (hx : x < 14) (hy : y < 14) : dst g d x y ≤ 1000000 := (dst_MD hl d x y x hx hy hx).1
theorem NS_le (g : Nat → Nat) (al x : Nat) : NS g al x ≤ 1000000 := stS_le _
theorem FS_le (g : Nat → Nat) (al x : Nat) : FS g al x ≤ 1000000 := by
  unfold FS
  split
  · exact stS_le _
  · exact NS_le _ _ _
theorem NR_le (g : Nat → Nat) (al x : Nat) : NR g al x ≤ 3 := stR_le (by split <;> omega)
theorem FR_le (g : Nat → Nat) (al x : Nat) : FR g al x ≤ 3 := by
  unfold FR
  split
  · exact stR_le (by omega)
  · exact NR_le _ _ _

set_option maxRecDepth 100000 in
set_option maxHeartbeats 4000000 in
theorem m_X7_sumFor {l : Launch} {G : GG} {m : Nat → Nat} {g ga gh : Nat → Nat} {kn : Nat} {gk : Nat → Nat} {kp : Bool} {tx : Nat → Nat} {ln : Nat} {iz wy wa tt rr we : Nat → Nat} {sp : Nat} {wr : Bool} {er : Int32} {x al : Nat} (hx : x < 14) (ha : al < 12) : zX l G yX7_sumFor cX7_sumFor 3 (some .int) 0 0 0 0 [.ref (m 0), .int (nI (x)), .int (nI (al))] (mB G m g ga gh kn gk kp tx ln iz wy wa tt rr we sp wr er).flatten (zF (some (.int (nI (tt (14 * al + x))))) (mB G m g ga gh kn gk kp tx ln iz wy wa tt rr we sp wr er).flatten) := by
  refine zj_startF RX7 (by decide +kernel) rfl rfl rfl (bs := (mB G m g ga gh kn gk kp tx ln iz wy wa tt rr we sp wr er)) rfl (lo := [some (.ref (m 0)), some (.int (nI (x))), some (.int (nI (al)))]) rfl ?_
  intro p0 e0 s0 m0 args0 below0 meth0 c0 A0 C hr hlocks
  refine zj_aload_n (pc := 0) C dX7_sumFor_0 rfl ?_
  refine gf_X7_11 (pc := 1) C dX7_sumFor_1 0 rfl ?_
  refine zj_bipush (pc := 4) (v := nI 14) C dX7_sumFor_4 (by decide) ?_
  refine zj_iload_n (pc := 6) C dX7_sumFor_6 rfl ?_
  refine zq_imul (pc := 7) C dX7_sumFor_7 ?_
  refine zj_iload_n (pc := 8) C dX7_sumFor_8 rfl ?_
  refine zq_iadd (pc := 9) C dX7_sumFor_9 ?_
  refine zq_iald (pc := 10) C dX7_sumFor_10 9 rfl (by omega) (by decide) ?_
  exact zj_iretF C hr hlocks dX7_sumFor_11 rfl rfl
set_option maxRecDepth 100000 in
set_option maxHeartbeats 4000000 in
theorem m_X7_ruleFor {l : Launch} {G : GG} {m : Nat → Nat} {g ga gh : Nat → Nat} {kn : Nat} {gk : Nat → Nat} {kp : Bool} {tx : Nat → Nat} {ln : Nat} {iz wy wa tt rr we : Nat → Nat} {sp : Nat} {wr : Bool} {er : Int32} {x al : Nat} (hx : x < 14) (ha : al < 12) : zX l G yX7_ruleFor cX7_ruleFor 3 (some .int) 0 0 0 0 [.ref (m 0), .int (nI (x)), .int (nI (al))] (mB G m g ga gh kn gk kp tx ln iz wy wa tt rr we sp wr er).flatten (zF (some (.int (nI (rr (14 * al + x))))) (mB G m g ga gh kn gk kp tx ln iz wy wa tt rr we sp wr er).flatten) := by
  refine zj_startF RX7 (by decide +kernel) rfl rfl rfl (bs := (mB G m g ga gh kn gk kp tx ln iz wy wa tt rr we sp wr er)) rfl (lo := [some (.ref (m 0)), some (.int (nI (x))), some (.int (nI (al)))]) rfl ?_
  intro p0 e0 s0 m0 args0 below0 meth0 c0 A0 C hr hlocks
  refine zj_aload_n (pc := 0) C dX7_ruleFor_0 rfl ?_
  refine gf_X7_12 (pc := 1) C dX7_ruleFor_1 0 rfl ?_
  refine zj_bipush (pc := 4) (v := nI 14) C dX7_ruleFor_4 (by decide) ?_
  refine zj_iload_n (pc := 6) C dX7_ruleFor_6 rfl ?_
  refine zq_imul (pc := 7) C dX7_ruleFor_7 ?_
  refine zj_iload_n (pc := 8) C dX7_ruleFor_8 rfl ?_
  refine zq_iadd (pc := 9) C dX7_ruleFor_9 ?_
  refine zq_iald (pc := 10) C dX7_ruleFor_10 10 rfl (by omega) (by decide) ?_
  exact zj_iretF C hr hlocks dX7_ruleFor_11 rfl rfl
set_option maxRecDepth 100000 in
set_option maxHeartbeats 4000000 in
theorem m_X7_byGate {l : Launch} {G : GG} {m : Nat → Nat} {g ga gh : Nat → Nat} {kn : Nat} {gk : Nat → Nat} {kp : Bool} {tx : Nat → Nat} {ln : Nat} {wa tt rr we : Nat → Nat} {sp : Nat} {wr : Bool} {er : Int32} {x al k : Nat} (hv : Vk g) (hx : x < 14) (ha : al < kA g) (hk : k < 14) : zX l G yX7_byGate cX7_byGate 5 (some .int) 2 45 0 0 [.ref (m 0), .int (nI (x)), .int (nI (al)), .int (nI (k))] (mB G m g ga gh kn gk kp tx ln (izV g) (wyV g) wa tt rr we sp wr er).flatten (zF (some (.int (nI (bgN g x al k)))) (mB G m g ga gh kn gk kp tx ln (izV g) (wyV g) wa tt rr we sp wr er).flatten) := by
  refine zj_startF RX7 (by decide +kernel) rfl rfl rfl (bs := (mB G m g ga gh kn gk kp tx ln (izV g) (wyV g) wa tt rr we sp wr er)) rfl (lo := [some (.ref (m 0)), some (.int (nI (x))), some (.int (nI (al))), some (.int (nI (k))), none]) rfl ?_
  intro p0 e0 s0 m0 args0 below0 meth0 c0 A0 C hr hlocks
  obtain ⟨a12, a0, a1, a2⟩ := Vk_a hv ha
  refine zj_aload_n (pc := 0) C dX7_byGate_0 rfl ?_
  refine zj_iload_n (pc := 1) C dX7_byGate_1 rfl ?_
  refine zj_iconst (pc := 2) (v := nI 2) C dX7_byGate_2 (by decide) ?_
  refine zq_callP (pc := 3) C kv_X7_79 (m_X7_ofAlley (by omega) (by decide)) dX7_byGate_3 rfl rfl rfl rfl rfl rfl ⟨0, rfl⟩ rfl rfl ?_
  refine zj_istore (pc := 6) C dX7_byGate_6 (Nat.le_of_ble_eq_true rfl) ?_
  refine zq_mrg 51 [] (nI (bgN g x al k)) ?_ (fun kk => ?_)
  · exact zj_iretF C hr hlocks dX7_byGate_51 rfl rfl
  · refine zj_aload_n (pc := 8) C dX7_byGate_8 rfl ?_
    refine zj_iload_n (pc := 9) C dX7_byGate_9 rfl ?_
    refine zj_iload (pc := 10) C dX7_byGate_10 rfl ?_
    refine zq_callP (pc := 12) C kv_X7_82 (m_X7_isGate (by omega) (by omega)) dX7_byGate_12 rfl rfl rfl rfl rfl rfl ⟨0, rfl⟩ rfl rfl ?_
    refine zj_ifb_eq (pc := 15) 49 C dX7_byGate_15 (by decide) (fun c_15 => ?_) (fun c_15 => ?_)
    · refine zj_ldc (pc := 49) (v := nI 1000000) C dX7_byGate_49 aq_1022 ?_
      exact zj_top (x' := nI (bgN g x al k)) (congrArg nI (if_neg (by rw [show gateK g (alC g al 2) k = false from c_15]; decide) : bgN g x al k = _).symm) kk
    · refine zj_aload_n (pc := 18) C dX7_byGate_18 rfl ?_
      refine zj_iconst (pc := 19) (v := nI 0) C dX7_byGate_19 (by decide) ?_
      refine zj_iload_n (pc := 20) C dX7_byGate_20 rfl ?_
      refine zj_iload_n (pc := 21) C dX7_byGate_21 rfl ?_
      refine zq_callP (pc := 22) C kv_X7_76 (m_X7_wayV (by omega) (by omega) (by omega)) dX7_byGate_22 rfl rfl rfl rfl rfl rfl ⟨0, rfl⟩ rfl rfl ?_
      refine zj_aload_n (pc := 25) C dX7_byGate_25 rfl ?_
      refine zj_iload (pc := 26) C dX7_byGate_26 rfl ?_
      refine zj_iload_n (pc := 28) C dX7_byGate_28 rfl ?_
      refine zj_aload_n (pc := 29) C dX7_byGate_29 rfl ?_
      refine zj_iload_n (pc := 30) C dX7_byGate_30 rfl ?_
      refine zj_iconst (pc := 31) (v := nI 0) C dX7_byGate_31 (by decide) ?_
      refine zq_callP (pc := 32) C kv_X7_79 (m_X7_ofAlley (by omega) (by decide)) dX7_byGate_32 rfl rfl rfl rfl rfl rfl ⟨0, rfl⟩ rfl rfl ?_
      refine zq_callP (pc := 35) C kv_X7_76 (m_X7_wayV (by omega) (by omega) (by omega)) dX7_byGate_35 rfl rfl rfl rfl rfl rfl ⟨0, rfl⟩ rfl rfl ?_
      refine zq_iadd (pc := 38) C dX7_byGate_38 ?_
      refine zj_aload_n (pc := 39) C dX7_byGate_39 rfl ?_
      refine zj_iload_n (pc := 40) C dX7_byGate_40 rfl ?_
      refine zj_iconst (pc := 41) (v := nI 1) C dX7_byGate_41 (by decide) ?_
      refine zq_callP (pc := 42) C kv_X7_79 (m_X7_ofAlley (by omega) (by decide)) dX7_byGate_42 rfl rfl rfl rfl rfl rfl ⟨0, rfl⟩ rfl rfl ?_
      refine zq_iadd (pc := 45) C dX7_byGate_45 ?_
      refine zj_goto (pc := 46) (tgt := 51) C dX7_byGate_46 (by decide) ?_
      exact zj_top (x' := nI (bgN g x al k)) (congrArg nI (if_pos c_15 : bgN g x al k = _).symm) kk
set_option maxRecDepth 100000 in
set_option maxHeartbeats 4000000 in
theorem m_X7_byDistrict {l : Launch} {G : GG} {m : Nat → Nat} {g ga gh : Nat → Nat} {kn : Nat} {gk : Nat → Nat} {kp : Bool} {tx : Nat → Nat} {ln : Nat} {wa tt rr we : Nat → Nat} {sp : Nat} {wr : Bool} {er : Int32} {x al k d : Nat} {N : Nat → Nat} (hv : Vk g) (hx : x < 14) (ha : al < 12) (hk : k < 14) (hd : d < 4) (hN : ∀ k, k < 14 → tt (14 * al + k) = N k) : zX l G yX7_byDistrict cX7_byDistrict 5 (some .int) 2 45 0 0 [.ref (m 0), .int (nI (x)), .int (nI (al)), .int (nI (k)), .int (nI (d))] (mB G m g ga gh kn gk kp tx ln (izV g) (wyV g) wa tt rr we sp wr er).flatten (zF (some (.int (nI (bdN g N x k d)))) (mB G m g ga gh kn gk kp tx ln (izV g) (wyV g) wa tt rr we sp wr er).flatten) := by
  refine zj_startF RX7 (by decide +kernel) rfl rfl rfl (bs := (mB G m g ga gh kn gk kp tx ln (izV g) (wyV g) wa tt rr we sp wr er)) rfl (lo := [some (.ref (m 0)), some (.int (nI (x))), some (.int (nI (al))), some (.int (nI (k))), some (.int (nI (d)))]) rfl ?_
  intro p0 e0 s0 m0 args0 below0 meth0 c0 A0 C hr hlocks
  refine zq_mrg 35 [] (nI (bdN g N x k d)) ?_ (fun kk => ?_)
  · exact zj_iretF C hr hlocks dX7_byDistrict_35 rfl rfl
  · refine zj_aload_n (pc := 0) C dX7_byDistrict_0 rfl ?_
    refine zj_iload_n (pc := 1) C dX7_byDistrict_1 rfl ?_
    refine zj_iload (pc := 2) C dX7_byDistrict_2 rfl ?_
    refine zq_callP (pc := 4) C kv_X7_82 (m_X7_isGate (by omega) (by omega)) dX7_byDistrict_4 rfl rfl rfl rfl rfl rfl ⟨0, rfl⟩ rfl rfl ?_
    refine zj_ifb_eq (pc := 7) 33 C dX7_byDistrict_7 (by decide) (fun c_7 => ?_) (fun c_7 => ?_)
    · refine zj_ldc (pc := 33) (v := nI 1000000) C dX7_byDistrict_33 aq_1022 ?_
      exact zj_top (x' := nI (bdN g N x k d)) (congrArg nI (if_neg (by rw [show gateK g d k = false from c_7]; decide) : bdN g N x k d = _).symm) kk
    · refine zj_aload_n (pc := 10) C dX7_byDistrict_10 rfl ?_
      refine zj_iload (pc := 11) C dX7_byDistrict_11 rfl ?_
      refine zj_iload_n (pc := 13) C dX7_byDistrict_13 rfl ?_
      refine zj_iload_n (pc := 14) C dX7_byDistrict_14 rfl ?_
      refine zq_callP (pc := 15) C kv_X7_76 (m_X7_wayV (by omega) (by omega) (by omega)) dX7_byDistrict_15 rfl rfl rfl rfl rfl rfl ⟨0, rfl⟩ rfl rfl ?_
      refine zj_aload_n (pc := 18) C dX7_byDistrict_18 rfl ?_
      refine gf_X7_11 (pc := 19) C dX7_byDistrict_19 0 rfl ?_
      refine zj_bipush (pc := 22) (v := nI 14) C dX7_byDistrict_22 (by decide) ?_
      refine zj_iload_n (pc := 24) C dX7_byDistrict_24 rfl ?_
      refine zq_imul (pc := 25) C dX7_byDistrict_25 ?_
      refine zj_iload_n (pc := 26) C dX7_byDistrict_26 rfl ?_
      refine zq_iadd (pc := 27) C dX7_byDistrict_27 ?_
      refine zq_iald (pc := 28) C dX7_byDistrict_28 9 rfl (by omega) (by decide) ?_
      refine zq_iadd (pc := 29) C dX7_byDistrict_29 ?_
      refine zj_goto (pc := 30) (tgt := 35) C dX7_byDistrict_30 (by decide) ?_
      exact zj_top (x' := nI (bdN g N x k d)) (congrArg nI ((if_pos c_7).trans (by rw [hN k hk]) : bdN g N x k d = _).symm) kk
set_option maxRecDepth 100000 in
set_option maxHeartbeats 4000000 in
theorem m_X7_tells {l : Launch} {G : GG} {m : Nat → Nat} {g ga gh : Nat → Nat} {kn : Nat} {gk : Nat → Nat} {kp : Bool} {tx : Nat → Nat} {ln : Nat} {iz wy wa tt rr we : Nat → Nat} {sp : Nat} {wr : Bool} {er : Int32} {x al to rl : Nat} (hx : x < 14) (ha : al < 12) (hto : to < 2 ^ 31) : zX l G yX7_tells cX7_tells 5 none 0 0 0 0 [.ref (m 0), .int (nI (x)), .int (nI (al)), .int (nI (to)), .int (nI (rl))] (mB G m g ga gh kn gk kp tx ln iz wy wa tt rr we sp wr er).flatten (zF none (mB G m g ga gh kn gk kp tx ln iz wy wa (updN tt (14 * al + x) (stS to)) (updN rr (14 * al + x) (stR to rl)) we sp wr er).flatten) := by
  refine zj_startF RX7 (by decide +kernel) rfl rfl rfl (bs := (mB G m g ga gh kn gk kp tx ln iz wy wa tt rr we sp wr er)) rfl (lo := [some (.ref (m 0)), some (.int (nI (x))), some (.int (nI (al))), some (.int (nI (to))), some (.int (nI (rl)))]) rfl ?_
  intro p0 e0 s0 m0 args0 below0 meth0 c0 A0 C hr hlocks
  refine zj_aload_n (pc := 0) C dX7_tells_0 rfl ?_
  refine gf_X7_11 (pc := 1) C dX7_tells_1 0 rfl ?_
  refine zj_bipush (pc := 4) (v := nI 14) C dX7_tells_4 (by decide) ?_
  refine zj_iload_n (pc := 6) C dX7_tells_6 rfl ?_
  refine zq_imul (pc := 7) C dX7_tells_7 ?_
  refine zj_iload_n (pc := 8) C dX7_tells_8 rfl ?_
  refine zq_iadd (pc := 9) C dX7_tells_9 ?_
  refine zq_mrg 22 [.int (nI (14 * al + x)), .ref (m 9)] (nI (stS to)) ?_ (fun kk => ?_)
  · refine zq_iast (pc := 22) C dX7_tells_22 9 rfl (by omega) (by decide) ?_
    refine zj_blk (bs' := (mB G m g ga gh kn gk kp tx ln iz wy wa (updN tt (14 * al + x) (stS to)) rr we sp wr er)) rfl ?_
    refine zj_aload_n (pc := 23) C dX7_tells_23 rfl ?_
    refine gf_X7_12 (pc := 24) C dX7_tells_24 0 rfl ?_
    refine zj_bipush (pc := 27) (v := nI 14) C dX7_tells_27 (by decide) ?_
    refine zj_iload_n (pc := 29) C dX7_tells_29 rfl ?_
    refine zq_imul (pc := 30) C dX7_tells_30 ?_
    refine zj_iload_n (pc := 31) C dX7_tells_31 rfl ?_
    refine zq_iadd (pc := 32) C dX7_tells_32 ?_
    refine zq_mrg 45 [.int (nI (14 * al + x)), .ref (m 10)] (nI (stR to rl)) ?_ (fun kk => ?_)
    · refine zq_iast (pc := 45) C dX7_tells_45 10 rfl (by omega) (by decide) ?_
      refine zj_blk (bs' := (mB G m g ga gh kn gk kp tx ln iz wy wa (updN tt (14 * al + x) (stS to)) (updN rr (14 * al + x) (stR to rl)) we sp wr er)) rfl ?_
      exact zj_vretF C hr hlocks dX7_tells_46 rfl
    · refine zj_iload_n (pc := 33) C dX7_tells_33 rfl ?_
      refine zj_ldc (pc := 34) (v := nI 1000000) C dX7_tells_34 aq_1022 ?_
      refine zq_icmp_ge (pc := 36) 44 C dX7_tells_36 (by decide) (by omega) (by omega) (fun c_36 => ?_) (fun c_36 => ?_)
      · refine zj_iconst (pc := 44) (v := nI 0) C dX7_tells_44 (by decide) ?_
        exact zj_top (x' := nI (stR to rl)) (congrArg nI (if_neg (by omega) : stR to rl = _).symm) kk
      · refine zj_iload (pc := 39) C dX7_tells_39 rfl ?_
        refine zj_goto (pc := 41) (tgt := 45) C dX7_tells_41 (by decide) ?_
        exact zj_top (x' := nI (stR to rl)) (congrArg nI (if_pos c_36 : stR to rl = _).symm) kk
  · refine zj_iload_n (pc := 10) C dX7_tells_10 rfl ?_
    refine zj_ldc (pc := 11) (v := nI 1000000) C dX7_tells_11 aq_1022 ?_
    refine zq_icmp_ge (pc := 13) 20 C dX7_tells_13 (by decide) (by omega) (by omega) (fun c_13 => ?_) (fun c_13 => ?_)
    · refine zj_ldc (pc := 20) (v := nI 1000000) C dX7_tells_20 aq_1022 ?_
      exact zj_top (x' := nI (stS to)) (congrArg nI (if_neg (by omega) : stS to = _).symm) kk
    · refine zj_iload_n (pc := 16) C dX7_tells_16 rfl ?_
      refine zj_goto (pc := 17) (tgt := 22) C dX7_tells_17 (by decide) ?_
      exact zj_top (x' := nI (stS to)) (congrArg nI (if_pos c_13 : stS to = _).symm) kk
set_option maxRecDepth 100000 in
set_option maxHeartbeats 4000000 in
theorem m_X7_tellsNear {l : Launch} {G : GG} {m : Nat → Nat} {g ga gh : Nat → Nat} {kn : Nat} {gk : Nat → Nat} {kp : Bool} {tx : Nat → Nat} {ln : Nat} {wa tt rr we : Nat → Nat} {sp : Nat} {wr : Bool} {er : Int32} {x al : Nat} (hv : Vk g) (hx : x < 14) (ha : al < kA g) : zX l G yX7_tellsNear cX7_tellsNear 7 none 3 69 0 0 [.ref (m 0), .int (nI (x)), .int (nI (al))] (mB G m g ga gh kn gk kp tx ln (izV g) (wyV g) wa tt rr we sp wr er).flatten (zF none (mB G m g ga gh kn gk kp tx ln (izV g) (wyV g) wa (updN tt (14 * al + x) (NS g al x)) (updN rr (14 * al + x) (NR g al x)) we sp wr er).flatten) := by
  refine zj_startF RX7 (by decide +kernel) rfl rfl rfl (bs := (mB G m g ga gh kn gk kp tx ln (izV g) (wyV g) wa tt rr we sp wr er)) rfl (lo := [some (.ref (m 0)), some (.int (nI (x))), some (.int (nI (al))), none, none, none, none]) rfl ?_
  intro p0 e0 s0 m0 args0 below0 meth0 c0 A0 C hr hlocks
  obtain ⟨a12, a0, a1, a2⟩ := Vk_a hv ha
  have hl := Vk_l hv
  have w1 := dst_1M hl (d := alC g al 2) hx a0
  refine zj_aload_n (pc := 0) C dX7_tellsNear_0 rfl ?_
  refine zj_aload_n (pc := 1) C dX7_tellsNear_1 rfl ?_
  refine zj_iload_n (pc := 2) C dX7_tellsNear_2 rfl ?_
  refine zj_iconst (pc := 3) (v := nI 2) C dX7_tellsNear_3 (by decide) ?_
  refine zq_callP (pc := 4) C kv_X7_79 (m_X7_ofAlley (by omega) (by decide)) dX7_tellsNear_4 rfl rfl rfl rfl rfl rfl ⟨0, rfl⟩ rfl rfl ?_
  refine zj_iload_n (pc := 7) C dX7_tellsNear_7 rfl ?_
  refine zj_aload_n (pc := 8) C dX7_tellsNear_8 rfl ?_
  refine zj_iload_n (pc := 9) C dX7_tellsNear_9 rfl ?_
  refine zj_iconst (pc := 10) (v := nI 0) C dX7_tellsNear_10 (by decide) ?_
  refine zq_callP (pc := 11) C kv_X7_79 (m_X7_ofAlley (by omega) (by decide)) dX7_tellsNear_11 rfl rfl rfl rfl rfl rfl ⟨0, rfl⟩ rfl rfl ?_
  refine zq_callP (pc := 14) C kv_X7_76 (m_X7_wayV (by omega) (by omega) (by omega)) dX7_tellsNear_14 rfl rfl rfl rfl rfl rfl ⟨0, rfl⟩ rfl rfl ?_
  refine zj_aload_n (pc := 17) C dX7_tellsNear_17 rfl ?_
  refine zj_iload_n (pc := 18) C dX7_tellsNear_18 rfl ?_
  refine zj_iconst (pc := 19) (v := nI 1) C dX7_tellsNear_19 (by decide) ?_
  refine zq_callP (pc := 20) C kv_X7_79 (m_X7_ofAlley (by omega) (by decide)) dX7_tellsNear_20 rfl rfl rfl rfl rfl rfl ⟨0, rfl⟩ rfl rfl ?_
  refine zq_iadd (pc := 23) C dX7_tellsNear_23 ?_
  refine zj_istore_n (pc := 24) C dX7_tellsNear_24 (Nat.le_of_ble_eq_true rfl) ?_
  refine zj_ldc (pc := 25) (v := nI 1000000) C dX7_tellsNear_25 aq_1022 ?_
  refine zj_istore (pc := 27) C dX7_tellsNear_27 (Nat.le_of_ble_eq_true rfl) ?_
  refine zj_iconst (pc := 29) (v := nI 0) C dX7_tellsNear_29 (by decide) ?_
  refine zj_istore (pc := 30) C dX7_tellsNear_30 (Nat.le_of_ble_eq_true rfl) ?_
  refine zj_keep [true, true, true, true, true, true, false] ?_
  refine zq_loop1 (fun (k : Nat) => k ≤ 14 ∧ (inn g 0 x = false → k = 0)) (fun (k : Nat) => 14 - k) (fun (k : Nat) => (mB G m g ga gh kn gk kp tx ln (izV g) (wyV g) wa tt rr we sp wr er)) (fun (k : Nat) => [some (.ref (m 0)), some (.int (nI (x))), some (.int (nI (al))), some (.int (nI (WN g al x))), some (.int (nI (mnF (bgN g x al) k))), some (.int (nI (k))), none]) ?_ 0 ⟨Nat.zero_le _, fun _ => rfl⟩
  intro k hI ih_32
  obtain ⟨h1, h2⟩ := hI
  have hm := mnF_le (bgN g x al) k
  refine zj_iload (pc := 32) C dX7_tellsNear_32 rfl ?_
  refine zj_bipush (pc := 34) (v := nI 14) C dX7_tellsNear_34 (by decide) ?_
  refine zq_icmp_ge (pc := 36) 80 C dX7_tellsNear_36 (by decide) (by omega) (by omega) (fun c_36 => ?_) (fun c_36 => ?_)
  · have hL : mnF (bgN g x al) k = LN g al x := by
      rw [show k = 14 by omega]; unfold LN; rw [if_pos (by cases h : inn g 0 x with | true => rfl | false => have := h2 h; omega)]
    have hw : WN g al x ≤ 1000020 := by unfold WN; omega
    have hNT : NT g al x ≤ 2000000 := by unfold NT; split <;> omega
    refine zj_aload_n (pc := 80) C dX7_tellsNear_80 rfl ?_
    refine zj_iload_n (pc := 81) C dX7_tellsNear_81 rfl ?_
    refine zj_iload_n (pc := 82) C dX7_tellsNear_82 rfl ?_
    refine zq_mrg 95 [.int (nI (al)), .int (nI (x)), .ref (m 0)] (nI (NT g al x)) ?_ (fun kk => ?_)
    · refine zq_mrg 106 [.int (nI (NT g al x)), .int (nI (al)), .int (nI (x)), .ref (m 0)] (nI (if WN g al x < 1000000 then 1 else 2)) ?_ (fun kk => ?_)
      · refine zq_callFn (pc := 106) (bs' := (mB G m g ga gh kn gk kp tx ln (izV g) (wyV g) wa (updN tt (14 * al + x) (stS (NT g al x))) (updN rr (14 * al + x) (stR (NT g al x) (if WN g al x < 1000000 then 1 else 2))) we sp wr er)) C kv_X7_88 (m_X7_tells (by omega) (by omega) (by omega)) dX7_tellsNear_106 rfl rfl rfl rfl rfl rfl ⟨0, rfl⟩ rfl rfl ?_
        exact zj_vretF C hr hlocks dX7_tellsNear_109 rfl
      · refine zj_iload_n (pc := 95) C dX7_tellsNear_95 rfl ?_
        refine zj_ldc (pc := 96) (v := nI 1000000) C dX7_tellsNear_96 aq_1022 ?_
        refine zq_icmp_ge (pc := 98) 105 C dX7_tellsNear_98 (by decide) (by omega) (by omega) (fun c_98 => ?_) (fun c_98 => ?_)
        · refine zj_iconst (pc := 105) (v := nI 2) C dX7_tellsNear_105 (by decide) ?_
          exact zj_top (x' := nI (if WN g al x < 1000000 then 1 else 2)) (congrArg nI (if_neg (by omega)).symm) kk
        · refine zj_iconst (pc := 101) (v := nI 1) C dX7_tellsNear_101 (by decide) ?_
          refine zj_goto (pc := 102) (tgt := 106) C dX7_tellsNear_102 (by decide) ?_
          exact zj_top (x' := nI (if WN g al x < 1000000 then 1 else 2)) (congrArg nI (if_pos c_98).symm) kk
    · refine zj_iload_n (pc := 83) C dX7_tellsNear_83 rfl ?_
      refine zj_ldc (pc := 84) (v := nI 1000000) C dX7_tellsNear_84 aq_1022 ?_
      refine zq_icmp_ge (pc := 86) 93 C dX7_tellsNear_86 (by decide) (by omega) (by omega) (fun c_86 => ?_) (fun c_86 => ?_)
      · refine zj_iload (pc := 93) C dX7_tellsNear_93 rfl ?_
        exact zj_top (x' := nI (NT g al x)) (congrArg nI ((if_neg (by omega) : NT g al x = _).trans hL.symm).symm) kk
      · refine zj_iload_n (pc := 89) C dX7_tellsNear_89 rfl ?_
        refine zj_goto (pc := 90) (tgt := 95) C dX7_tellsNear_90 (by decide) ?_
        exact zj_top (x' := nI (NT g al x)) (congrArg nI ((if_pos c_86 : NT g al x = _)).symm) kk
  · refine zj_aload_n (pc := 39) C dX7_tellsNear_39 rfl ?_
    refine zj_iload_n (pc := 40) C dX7_tellsNear_40 rfl ?_
    refine zj_iconst (pc := 41) (v := nI 0) C dX7_tellsNear_41 (by decide) ?_
    refine zq_callP (pc := 42) C kv_X7_63 (m_X7_isIn (by omega) (by omega)) dX7_tellsNear_42 rfl rfl rfl rfl rfl rfl ⟨0, rfl⟩ rfl rfl ?_
    refine zj_ifb_eq (pc := 45) 80 C dX7_tellsNear_45 (by decide) (fun c_45 => ?_) (fun c_45 => ?_)
    · have hL : mnF (bgN g x al) k = LN g al x := by
        rw [h2 c_45]; unfold LN; rw [if_neg (by rw [c_45]; decide)]; rfl
      have hw : WN g al x ≤ 1000020 := by unfold WN; omega
      have hNT : NT g al x ≤ 2000000 := by unfold NT; split <;> omega
      refine zj_aload_n (pc := 80) C dX7_tellsNear_80 rfl ?_
      refine zj_iload_n (pc := 81) C dX7_tellsNear_81 rfl ?_
      refine zj_iload_n (pc := 82) C dX7_tellsNear_82 rfl ?_
      refine zq_mrg 95 [.int (nI (al)), .int (nI (x)), .ref (m 0)] (nI (NT g al x)) ?_ (fun kk => ?_)
      · refine zq_mrg 106 [.int (nI (NT g al x)), .int (nI (al)), .int (nI (x)), .ref (m 0)] (nI (if WN g al x < 1000000 then 1 else 2)) ?_ (fun kk => ?_)
        · refine zq_callFn (pc := 106) (bs' := (mB G m g ga gh kn gk kp tx ln (izV g) (wyV g) wa (updN tt (14 * al + x) (stS (NT g al x))) (updN rr (14 * al + x) (stR (NT g al x) (if WN g al x < 1000000 then 1 else 2))) we sp wr er)) C kv_X7_88 (m_X7_tells (by omega) (by omega) (by omega)) dX7_tellsNear_106 rfl rfl rfl rfl rfl rfl ⟨0, rfl⟩ rfl rfl ?_
          exact zj_vretF C hr hlocks dX7_tellsNear_109 rfl
        · refine zj_iload_n (pc := 95) C dX7_tellsNear_95 rfl ?_
          refine zj_ldc (pc := 96) (v := nI 1000000) C dX7_tellsNear_96 aq_1022 ?_
          refine zq_icmp_ge (pc := 98) 105 C dX7_tellsNear_98 (by decide) (by omega) (by omega) (fun c_98 => ?_) (fun c_98 => ?_)
          · refine zj_iconst (pc := 105) (v := nI 2) C dX7_tellsNear_105 (by decide) ?_
            exact zj_top (x' := nI (if WN g al x < 1000000 then 1 else 2)) (congrArg nI (if_neg (by omega)).symm) kk
          · refine zj_iconst (pc := 101) (v := nI 1) C dX7_tellsNear_101 (by decide) ?_
            refine zj_goto (pc := 102) (tgt := 106) C dX7_tellsNear_102 (by decide) ?_
            exact zj_top (x' := nI (if WN g al x < 1000000 then 1 else 2)) (congrArg nI (if_pos c_98).symm) kk
      · refine zj_iload_n (pc := 83) C dX7_tellsNear_83 rfl ?_
        refine zj_ldc (pc := 84) (v := nI 1000000) C dX7_tellsNear_84 aq_1022 ?_
        refine zq_icmp_ge (pc := 86) 93 C dX7_tellsNear_86 (by decide) (by omega) (by omega) (fun c_86 => ?_) (fun c_86 => ?_)
        · refine zj_iload (pc := 93) C dX7_tellsNear_93 rfl ?_
          exact zj_top (x' := nI (NT g al x)) (congrArg nI ((if_neg (by omega) : NT g al x = _).trans hL.symm).symm) kk
        · refine zj_iload_n (pc := 89) C dX7_tellsNear_89 rfl ?_
          refine zj_goto (pc := 90) (tgt := 95) C dX7_tellsNear_90 (by decide) ?_
          exact zj_top (x' := nI (NT g al x)) (congrArg nI ((if_pos c_86 : NT g al x = _)).symm) kk
    · have g0 := dst_1M hl (d := 0) hx (show k < 14 by omega)
      have g1 := dst_1M hl (d := alC g al 2) (show k < 14 by omega) a0
      have g2 : bgN g x al k ≤ 3000000 := by unfold bgN; split <;> omega
      refine zj_aload_n (pc := 48) C dX7_tellsNear_48 rfl ?_
      refine zj_iload_n (pc := 49) C dX7_tellsNear_49 rfl ?_
      refine zj_iload_n (pc := 50) C dX7_tellsNear_50 rfl ?_
      refine zj_iload (pc := 51) C dX7_tellsNear_51 rfl ?_
      refine zq_callP (pc := 53) C kv_X7_85 (m_X7_byGate hv (by omega) (by omega) (by omega)) dX7_tellsNear_53 rfl rfl rfl rfl rfl rfl ⟨0, rfl⟩ rfl rfl ?_
      refine zj_istore (pc := 56) C dX7_tellsNear_56 (Nat.le_of_ble_eq_true rfl) ?_
      refine zq_mrg 72 [] (nI (mnF (bgN g x al) (k + 1))) ?_ (fun kk => ?_)
      · refine zj_istore (pc := 72) C dX7_tellsNear_72 (Nat.le_of_ble_eq_true rfl) ?_
        refine zj_iinc (pc := 74) (v := nI (k + 1)) C dX7_tellsNear_74 rfl (nI_1 _) ?_
        refine zj_goto (pc := 77) (tgt := 32) C dX7_tellsNear_77 (by decide) ?_
        refine zj_keep [true, true, true, true, true, true, false] ?_
        exact ih_32 (k + 1) ⟨by omega, fun h => by rw [c_45] at h; cases h⟩ (by omega)
      · refine zj_iload (pc := 58) C dX7_tellsNear_58 rfl ?_
        refine zj_iload (pc := 60) C dX7_tellsNear_60 rfl ?_
        refine zq_icmp_ge (pc := 62) 70 C dX7_tellsNear_62 (by decide) (by omega) (by omega) (fun c_62 => ?_) (fun c_62 => ?_)
        · refine zj_iload (pc := 70) C dX7_tellsNear_70 rfl ?_
          exact zj_top (x' := nI (mnF (bgN g x al) (k + 1))) (congrArg nI (show _ = min (bgN g x al k) (mnF (bgN g x al) k) by omega)) kk
        · refine zj_iload (pc := 65) C dX7_tellsNear_65 rfl ?_
          refine zj_goto (pc := 67) (tgt := 72) C dX7_tellsNear_67 (by decide) ?_
          exact zj_top (x' := nI (mnF (bgN g x al) (k + 1))) (congrArg nI (show _ = min (bgN g x al k) (mnF (bgN g x al) k) by omega)) kk
set_option maxRecDepth 100000 in
set_option maxHeartbeats 4000000 in
theorem m_X7_tellsFar {l : Launch} {G : GG} {m : Nat → Nat} {g ga gh : Nat → Nat} {kn : Nat} {gk : Nat → Nat} {kp : Bool} {tx : Nat → Nat} {ln : Nat} {wa tt rr we : Nat → Nat} {sp : Nat} {wr : Bool} {er : Int32} {x al : Nat} {N : Nat → Nat} (hv : Vk g) (hx : x < 14) (ha : al < 12) (hN : ∀ k, k < 14 → tt (14 * al + k) = N k) (hN1 : ∀ k, N k ≤ 1000000) : zX l G yX7_tellsFar cX7_tellsFar 6 none 3 69 0 0 [.ref (m 0), .int (nI (x)), .int (nI (al))] (mB G m g ga gh kn gk kp tx ln (izV g) (wyV g) wa tt rr we sp wr er).flatten (zF none (mB G m g ga gh kn gk kp tx ln (izV g) (wyV g) wa (updN tt (14 * al + x) (stS (LF g N x))) (updN rr (14 * al + x) (stR (LF g N x) 3)) we sp wr er).flatten) := by
  refine zj_startF RX7 (by decide +kernel) rfl rfl rfl (bs := (mB G m g ga gh kn gk kp tx ln (izV g) (wyV g) wa tt rr we sp wr er)) rfl (lo := [some (.ref (m 0)), some (.int (nI (x))), some (.int (nI (al))), none, none, none]) rfl ?_
  intro p0 e0 s0 m0 args0 below0 meth0 c0 A0 C hr hlocks
  have hl := Vk_l hv
  refine zj_ldc (pc := 0) (v := nI 1000000) C dX7_tellsFar_0 aq_1022 ?_
  refine zj_istore_n (pc := 2) C dX7_tellsFar_2 (Nat.le_of_ble_eq_true rfl) ?_
  refine zj_bipush (pc := 3) (v := nI 14) C dX7_tellsFar_3 (by decide) ?_
  refine zj_istore (pc := 5) C dX7_tellsFar_5 (Nat.le_of_ble_eq_true rfl) ?_
  refine zj_keep [true, true, true, true, true, false] ?_
  refine zq_loop1 (fun (j : Nat) => j ≤ 42) (fun (j : Nat) => 42 - j) (fun (j : Nat) => (mB G m g ga gh kn gk kp tx ln (izV g) (wyV g) wa tt rr we sp wr er)) (fun (j : Nat) => [some (.ref (m 0)), some (.int (nI (x))), some (.int (nI (al))), some (.int (nI (mnF (fun j => bdN g N x ((14 + j) % 14) ((14 + j) / 14)) j))), some (.int (nI (14 + j))), none]) ?_ 0 (Nat.zero_le _)
  intro j hI ih_7
  have hm := mnF_le (fun j => bdN g N x ((14 + j) % 14) ((14 + j) / 14)) j
  refine zj_iload (pc := 7) C dX7_tellsFar_7 rfl ?_
  refine zj_bipush (pc := 9) (v := nI 56) C dX7_tellsFar_9 (by decide) ?_
  refine zq_icmp_ge (pc := 11) 51 C dX7_tellsFar_11 (by decide) (by omega) (by omega) (fun c_11 => ?_) (fun c_11 => ?_)
  · refine zj_aload_n (pc := 51) C dX7_tellsFar_51 rfl ?_
    refine zj_iload_n (pc := 52) C dX7_tellsFar_52 rfl ?_
    refine zj_iload_n (pc := 53) C dX7_tellsFar_53 rfl ?_
    refine zj_iload_n (pc := 54) C dX7_tellsFar_54 rfl ?_
    refine zj_iconst (pc := 55) (v := nI 3) C dX7_tellsFar_55 (by decide) ?_
    refine zq_callFn (pc := 56) (bs' := (mB G m g ga gh kn gk kp tx ln (izV g) (wyV g) wa (updN tt (14 * al + x) (stS (mnF (fun j => bdN g N x ((14 + j) % 14) ((14 + j) / 14)) j))) (updN rr (14 * al + x) (stR (mnF (fun j => bdN g N x ((14 + j) % 14) ((14 + j) / 14)) j) 3)) we sp wr er)) C kv_X7_88 (m_X7_tells (by omega) (by omega) (by omega)) dX7_tellsFar_56 rfl rfl rfl rfl rfl rfl ⟨0, rfl⟩ rfl rfl ?_
    exact zj_vretF C hr hlocks dX7_tellsFar_59 (by rw [show j = 42 by omega]; rfl)
  · have g1 := dst_1M hl (d := (14 + j) / 14) hx (show (14 + j) % 14 < 14 by omega)
    have g3 := hN1 ((14 + j) % 14)
    have g2 : bdN g N x ((14 + j) % 14) ((14 + j) / 14) ≤ 3000000 := by unfold bdN; split <;> omega
    refine zj_aload_n (pc := 14) C dX7_tellsFar_14 rfl ?_
    refine zj_iload_n (pc := 15) C dX7_tellsFar_15 rfl ?_
    refine zj_iload_n (pc := 16) C dX7_tellsFar_16 rfl ?_
    refine zj_iload (pc := 17) C dX7_tellsFar_17 rfl ?_
    refine zj_bipush (pc := 19) (v := nI 14) C dX7_tellsFar_19 (by decide) ?_
    refine zq_irem (pc := 21) C dX7_tellsFar_21 (by omega) (by decide) (by decide) ?_
    refine zj_iload (pc := 22) C dX7_tellsFar_22 rfl ?_
    refine zj_bipush (pc := 24) (v := nI 14) C dX7_tellsFar_24 (by decide) ?_
    refine zq_idiv (pc := 26) C dX7_tellsFar_26 (by omega) (by decide) (by decide) ?_
    refine zq_callP (pc := 27) C kv_X7_92 (m_X7_byDistrict (N := N) hv hx ha (by omega) (by omega) hN) dX7_tellsFar_27 rfl rfl rfl rfl rfl rfl ⟨0, rfl⟩ rfl rfl ?_
    refine zj_istore (pc := 30) C dX7_tellsFar_30 (Nat.le_of_ble_eq_true rfl) ?_
    refine zq_mrg 44 [] (nI (mnF (fun j => bdN g N x ((14 + j) % 14) ((14 + j) / 14)) (j + 1))) ?_ (fun kk => ?_)
    · refine zj_istore_n (pc := 44) C dX7_tellsFar_44 (Nat.le_of_ble_eq_true rfl) ?_
      refine zj_iinc (pc := 45) (v := nI (14 + j + 1)) C dX7_tellsFar_45 rfl (nI_1 _) ?_
      refine zj_goto (pc := 48) (tgt := 7) C dX7_tellsFar_48 (by decide) ?_
      refine zj_keep [true, true, true, true, true, false] ?_
      exact ih_7 (j + 1) (by omega) (by omega)
    · refine zj_iload (pc := 32) C dX7_tellsFar_32 rfl ?_
      refine zj_iload_n (pc := 34) C dX7_tellsFar_34 rfl ?_
      refine zq_icmp_ge (pc := 35) 43 C dX7_tellsFar_35 (by decide) (by omega) (by omega) (fun c_35 => ?_) (fun c_35 => ?_)
      · refine zj_iload_n (pc := 43) C dX7_tellsFar_43 rfl ?_
        exact zj_top (x' := nI (mnF (fun j => bdN g N x ((14 + j) % 14) ((14 + j) / 14)) (j + 1))) (congrArg nI (show _ = min (bdN g N x ((14 + j) % 14) ((14 + j) / 14)) (mnF (fun j => bdN g N x ((14 + j) % 14) ((14 + j) / 14)) j) by omega)) kk
      · refine zj_iload (pc := 38) C dX7_tellsFar_38 rfl ?_
        refine zj_goto (pc := 40) (tgt := 44) C dX7_tellsFar_40 (by decide) ?_
        exact zj_top (x' := nI (mnF (fun j => bdN g N x ((14 + j) % 14) ((14 + j) / 14)) (j + 1))) (congrArg nI (show _ = min (bdN g N x ((14 + j) % 14) ((14 + j) / 14)) (mnF (fun j => bdN g N x ((14 + j) % 14) ((14 + j) / 14)) j) by omega)) kk
theorem bdN_c {g N N' : Nat → Nat} {x k d : Nat} (hk : k < 14) (h : ∀ k, k < 14 → inn g 0 k = true → N k = N' k) : bdN g N x k d = bdN g N' x k d := by
  unfold bdN
  split
  · rename_i hg
    unfold gateK at hg
    simp only [Bool.and_eq_true] at hg
    rw [h k hk hg.2.2]
  · rfl
theorem mnF_c {f f' : Nat → Nat} : ∀ {n : Nat}, (∀ k, k < n → f k = f' k) → mnF f n = mnF f' n
  | 0, _ => rfl
  | n + 1, h => by
    show min _ _ = min _ _
    rw [h n (by omega), mnF_c (fun k hk => h k (by omega))]
theorem LF_c {g N N' : Nat → Nat} {x : Nat} (h : ∀ k, k < 14 → inn g 0 k = true → N k = N' k) : LF g N x = LF g N' x := mnF_c fun j _ => bdN_c (by omega) h
theorem FS_g {g : Nat → Nat} {al x : Nat} (h : inn g 0 x = true) : FS g al x = NS g al x := if_neg (fun q => by rw [h] at q; cases q.2)
theorem FS_t {g : Nat → Nat} {al x : Nat} (h : NR g al x = 0) (h2 : inn g 0 x = false) : FS g al x = stS (LF g (NS g al) x) ∧ FR g al x = stR (LF g (NS g al) x) 3 := ⟨if_pos ⟨h, h2⟩, if_pos ⟨h, h2⟩⟩
theorem FS_f {g : Nat → Nat} {al x : Nat} (h : ¬ (NR g al x = 0 ∧ inn g 0 x = false)) : FS g al x = NS g al x ∧ FR g al x = NR g al x := ⟨if_neg h, if_neg h⟩
set_option maxRecDepth 100000 in
set_option maxHeartbeats 4000000 in
theorem m_X7_worksOutTotals {l : Launch} {G : GG} {m : Nat → Nat} {g ga gh : Nat → Nat} {kn : Nat} {gk : Nat → Nat} {kp : Bool} {tx : Nat → Nat} {ln : Nat} {iz wy wa tt rr we : Nat → Nat} {sp : Nat} {wr : Bool} {er : Int32} (hv : Vk g) : zX l G yX7_worksOutTotals cX7_worksOutTotals 3 none 4 95 0 0 [.ref (m 0)] (mB G m g ga gh kn gk kp tx ln iz wy wa tt rr we sp wr er).flatten (zF none (mB G m g ga gh kn gk kp tx ln (izV g) (wyV g) wa (ttV g tt) (rrV g rr) we sp wr er).flatten) := by
  refine zj_startF RX7 (by decide +kernel) rfl rfl rfl (bs := (mB G m g ga gh kn gk kp tx ln iz wy wa tt rr we sp wr er)) rfl (lo := [some (.ref (m 0)), none, none]) rfl ?_
  intro p0 e0 s0 m0 args0 below0 meth0 c0 A0 C hr hlocks
  have hk : kL g ≤ 25 := hv.1
  have hke : kL g = g 14 := rfl
  have ha : kA g ≤ 12 := hv.2.1
  have hae : kA g = g 140 := rfl
  refine zj_aload_n (pc := 0) C dX7_worksOutTotals_0 rfl ?_
  refine zq_callFn (pc := 1) (bs' := (mB G m g ga gh kn gk kp tx ln (izV g) wy wa tt rr we sp wr er)) C kv_X7_96 (m_X7_looks hv) dX7_worksOutTotals_1 rfl rfl rfl rfl rfl rfl ⟨0, rfl⟩ rfl rfl ?_
  refine zj_iconst (pc := 4) (v := nI 0) C dX7_worksOutTotals_4 (by decide) ?_
  refine zj_istore_n (pc := 5) C dX7_worksOutTotals_5 (Nat.le_of_ble_eq_true rfl) ?_
  refine zj_blk (bs' := (mB G m g ga gh kn gk kp tx ln (izV g) (wyI g wy 0) wa tt rr we sp wr er)) (by rw [wyI_0]) ?_
  refine zj_keep [true, true, false] ?_
  refine zq_loop1 (fun (d : Nat) => d ≤ 4) (fun (d : Nat) => 4 - d) (fun (d : Nat) => (mB G m g ga gh kn gk kp tx ln (izV g) (wyI g wy d) wa tt rr we sp wr er)) (fun (d : Nat) => [some (.ref (m 0)), some (.int (nI (d))), none]) ?_ 0 (Nat.zero_le _)
  intro d hI ih_6
  refine zj_iload_n (pc := 6) C dX7_worksOutTotals_6 rfl ?_
  refine zj_iconst (pc := 7) (v := nI 4) C dX7_worksOutTotals_7 (by decide) ?_
  refine zq_icmp_ge (pc := 8) 22 C dX7_worksOutTotals_8 (by decide) (by omega) (by omega) (fun c_8 => ?_) (fun c_8 => ?_)
  · refine zq_row 7 (wyV g) rfl (fun k hk => if_pos (by omega)) ?_
    refine zj_blk (bs' := (mB G m g ga gh kn gk kp tx ln (izV g) (wyV g) wa tt rr we sp wr er)) rfl ?_
    refine zj_iconst (pc := 22) (v := nI 0) C dX7_worksOutTotals_22 (by decide) ?_
    refine zj_istore_n (pc := 23) C dX7_worksOutTotals_23 (Nat.le_of_ble_eq_true rfl) ?_
    refine zj_blk (bs' := (mB G m g ga gh kn gk kp tx ln (izV g) (wyV g) wa (ttI (FS g) 0 tt) (ttI (FR g) 0 rr) we sp wr er)) (by rw [ttI_0, ttI_0]) ?_
    refine zj_keep [true, true, false] ?_
    refine zq_loop1 (fun (al : Nat) => al ≤ kA g) (fun (al : Nat) => kA g - al) (fun (al : Nat) => (mB G m g ga gh kn gk kp tx ln (izV g) (wyV g) wa (ttI (FS g) al tt) (ttI (FR g) al rr) we sp wr er)) (fun (al : Nat) => [some (.ref (m 0)), some (.int (nI (al))), none]) ?_ 0 (Nat.zero_le _)
    intro al hI ih_24
    refine zj_iload_n (pc := 24) C dX7_worksOutTotals_24 rfl ?_
    refine zj_aload_n (pc := 25) C dX7_worksOutTotals_25 rfl ?_
    refine gf_X7_0 (pc := 26) C dX7_worksOutTotals_26 0 rfl ?_
    refine zj_sipush (pc := 29) (v := nI 140) C dX7_worksOutTotals_29 (by decide) ?_
    refine zq_iald (pc := 32) C dX7_worksOutTotals_32 1 rfl (by omega) (by decide) ?_
    refine zq_icmp_ge (pc := 33) 105 C dX7_worksOutTotals_33 (by decide) (by omega) (by omega) (fun c_33 => ?_) (fun c_33 => ?_)
    · have ha9 : al = kA g := by omega
      refine zj_blk (bs' := (mB G m g ga gh kn gk kp tx ln (izV g) (wyV g) wa (ttV g tt) (rrV g rr) we sp wr er)) (by rw [ha9]; rfl) ?_
      exact zj_vretF C hr hlocks dX7_worksOutTotals_105 rfl
    · refine zj_iconst (pc := 36) (v := nI 0) C dX7_worksOutTotals_36 (by decide) ?_
      refine zj_istore_n (pc := 37) C dX7_worksOutTotals_37 (Nat.le_of_ble_eq_true rfl) ?_
      refine zj_blk (bs' := (mB G m g ga gh kn gk kp tx ln (izV g) (wyV g) wa (nrI (NS g al) al (0) (ttI (FS g) al tt)) (nrI (NR g al) al (0) (ttI (FR g) al rr)) we sp wr er)) (by rw [nrI_0, nrI_0]) ?_
      refine zj_keep [true, true, true] ?_
      refine zq_loop1 (fun (x : Nat) => x ≤ 14) (fun (x : Nat) => 14 - x) (fun (x : Nat) => (mB G m g ga gh kn gk kp tx ln (izV g) (wyV g) wa (nrI (NS g al) al (x) (ttI (FS g) al tt)) (nrI (NR g al) al (x) (ttI (FR g) al rr)) we sp wr er)) (fun (x : Nat) => [some (.ref (m 0)), some (.int (nI (al))), some (.int (nI (x)))]) ?_ 0 (Nat.zero_le _)
      intro x hI ih_38
      refine zj_iload_n (pc := 38) C dX7_worksOutTotals_38 rfl ?_
      refine zj_bipush (pc := 39) (v := nI 14) C dX7_worksOutTotals_39 (by decide) ?_
      refine zq_icmp_ge (pc := 41) 56 C dX7_worksOutTotals_41 (by decide) (by omega) (by omega) (fun c_41 => ?_) (fun c_41 => ?_)
      · refine zj_iconst (pc := 56) (v := nI 0) C dX7_worksOutTotals_56 (by decide) ?_
        refine zj_istore_n (pc := 57) C dX7_worksOutTotals_57 (Nat.le_of_ble_eq_true rfl) ?_
        have hx9 : x = 14 := by omega
        refine zj_blk (bs' := (mB G m g ga gh kn gk kp tx ln (izV g) (wyV g) wa (nrI (FS g al) al (0) (nrI (NS g al) al (14) (ttI (FS g) al tt))) (nrI (FR g al) al (0) (nrI (NR g al) al (14) (ttI (FR g) al rr))) we sp wr er)) (by rw [nrI_0, nrI_0, hx9]) ?_
        refine zj_keep [true, true, true] ?_
        refine zq_loop1 (fun (y : Nat) => y ≤ 14) (fun (y : Nat) => 14 - y) (fun (y : Nat) => (mB G m g ga gh kn gk kp tx ln (izV g) (wyV g) wa (nrI (FS g al) al (y) (nrI (NS g al) al (14) (ttI (FS g) al tt))) (nrI (FR g al) al (y) (nrI (NR g al) al (14) (ttI (FR g) al rr))) we sp wr er)) (fun (y : Nat) => [some (.ref (m 0)), some (.int (nI (al))), some (.int (nI (y)))]) ?_ 0 (Nat.zero_le _)
        intro y hI ih_58
        refine zj_iload_n (pc := 58) C dX7_worksOutTotals_58 rfl ?_
        refine zj_bipush (pc := 59) (v := nI 14) C dX7_worksOutTotals_59 (by decide) ?_
        refine zq_icmp_ge (pc := 61) 99 C dX7_worksOutTotals_61 (by decide) (by omega) (by omega) (fun c_61 => ?_) (fun c_61 => ?_)
        · refine zj_iinc (pc := 99) (v := nI (al + 1)) C dX7_worksOutTotals_99 rfl (nI_1 _) ?_
          refine zj_goto (pc := 102) (tgt := 24) C dX7_worksOutTotals_102 (by decide) ?_
          refine zj_blk (bs' := (mB G m g ga gh kn gk kp tx ln (izV g) (wyV g) wa (ttI (FS g) (al + 1) tt) (ttI (FR g) (al + 1) rr) we sp wr er)) (by rw [show y = 14 by omega, nrI_2, nrI_2, ttI_s, ttI_s]) ?_
          refine zj_keep [true, true, false] ?_
          exact ih_24 (al + 1) (by omega) (by omega)
        · refine zj_aload_n (pc := 64) C dX7_worksOutTotals_64 rfl ?_
          refine gf_X7_12 (pc := 65) C dX7_worksOutTotals_65 0 rfl ?_
          refine zj_bipush (pc := 68) (v := nI 14) C dX7_worksOutTotals_68 (by decide) ?_
          refine zj_iload_n (pc := 70) C dX7_worksOutTotals_70 rfl ?_
          refine zq_imul (pc := 71) C dX7_worksOutTotals_71 ?_
          refine zj_iload_n (pc := 72) C dX7_worksOutTotals_72 rfl ?_
          refine zq_iadd (pc := 73) C dX7_worksOutTotals_73 ?_
          refine zq_iald (pc := 74) C dX7_worksOutTotals_74 10 rfl (by omega) (by decide) ?_
          have e1 : nrI (FR g al) al (y) (nrI (NR g al) al (14) (ttI (FR g) al rr)) (14 * al + y) = NR g al y := by rw [nrI_at (by omega), if_neg (by omega), nrI_at (by omega), if_pos (by omega)]
          have e2 := NR_le g al y
          refine zj_top (x' := nI (NR g al y)) (congrArg nI e1) ?_
          refine zq_if_ne (pc := 75) 93 C dX7_worksOutTotals_75 (by decide) (by omega) (fun c_75 => ?_) (fun c_75 => ?_)
          · refine zj_iinc (pc := 93) (v := nI (y + 1)) C dX7_worksOutTotals_93 rfl (nI_1 _) ?_
            refine zj_goto (pc := 96) (tgt := 58) C dX7_worksOutTotals_96 (by decide) ?_
            have hFS := FS_f (al := al) (fun q => c_75 q.1)
            refine zj_blk (bs' := (mB G m g ga gh kn gk kp tx ln (izV g) (wyV g) wa (nrI (FS g al) al (y + 1) (nrI (NS g al) al (14) (ttI (FS g) al tt))) (nrI (FR g al) al (y + 1) (nrI (NR g al) al (14) (ttI (FR g) al rr))) we sp wr er)) (by rw [nrI_n (F := FS g al) (by omega) (by rw [nrI_at (by omega), if_pos (by omega), hFS.1]), nrI_n (F := FR g al) (by omega) (by rw [nrI_at (by omega), if_pos (by omega), hFS.2])]) ?_
            refine zj_keep [true, true, true] ?_
            exact ih_58 (y + 1) (by omega) (by omega)
          · refine zj_aload_n (pc := 78) C dX7_worksOutTotals_78 rfl ?_
            refine zj_iload_n (pc := 79) C dX7_worksOutTotals_79 rfl ?_
            refine zj_iconst (pc := 80) (v := nI 0) C dX7_worksOutTotals_80 (by decide) ?_
            refine zq_callP (pc := 81) C kv_X7_63 (m_X7_isIn (by omega) (by omega)) dX7_worksOutTotals_81 rfl rfl rfl rfl rfl rfl ⟨0, rfl⟩ rfl rfl ?_
            refine zj_ifb_ne (pc := 84) 93 C dX7_worksOutTotals_84 (by decide) (fun c_84 => ?_) (fun c_84 => ?_)
            · refine zj_iinc (pc := 93) (v := nI (y + 1)) C dX7_worksOutTotals_93 rfl (nI_1 _) ?_
              refine zj_goto (pc := 96) (tgt := 58) C dX7_worksOutTotals_96 (by decide) ?_
              have hFS := FS_f (al := al) (fun q => by have q2 := q.2; rw [c_84] at q2; cases q2)
              refine zj_blk (bs' := (mB G m g ga gh kn gk kp tx ln (izV g) (wyV g) wa (nrI (FS g al) al (y + 1) (nrI (NS g al) al (14) (ttI (FS g) al tt))) (nrI (FR g al) al (y + 1) (nrI (NR g al) al (14) (ttI (FR g) al rr))) we sp wr er)) (by rw [nrI_n (F := FS g al) (by omega) (by rw [nrI_at (by omega), if_pos (by omega), hFS.1]), nrI_n (F := FR g al) (by omega) (by rw [nrI_at (by omega), if_pos (by omega), hFS.2])]) ?_
              refine zj_keep [true, true, true] ?_
              exact ih_58 (y + 1) (by omega) (by omega)
            · refine zj_aload_n (pc := 87) C dX7_worksOutTotals_87 rfl ?_
              refine zj_iload_n (pc := 88) C dX7_worksOutTotals_88 rfl ?_
              refine zj_iload_n (pc := 89) C dX7_worksOutTotals_89 rfl ?_
              refine zq_callFn (pc := 90) (bs' := (mB G m g ga gh kn gk kp tx ln (izV g) (wyV g) wa (updN (nrI (FS g al) al (y) (nrI (NS g al) al (14) (ttI (FS g) al tt))) (14 * al + y) (stS (LF g (fun k => if k < y then FS g al k else NS g al k) y))) (updN (nrI (FR g al) al (y) (nrI (NR g al) al (14) (ttI (FR g) al rr))) (14 * al + y) (stR (LF g (fun k => if k < y then FS g al k else NS g al k) y) 3)) we sp wr er)) C kv_X7_106 (m_X7_tellsFar (N := fun k => if k < y then FS g al k else NS g al k) hv (by omega) (by omega) (fun k hk => by rw [nrI_at hk, nrI_at hk, if_pos hk]) (fun k => by split; exact FS_le _ _ _; exact NS_le _ _ _)) dX7_worksOutTotals_90 rfl rfl rfl rfl rfl rfl ⟨0, rfl⟩ rfl rfl ?_
              have hLF : LF g (fun k => if k < y then FS g al k else NS g al k) y = LF g (NS g al) y := LF_c fun k hk hg => by split; exact FS_g hg; rfl
              refine zj_iinc (pc := 93) (v := nI (y + 1)) C dX7_worksOutTotals_93 rfl (nI_1 _) ?_
              refine zj_goto (pc := 96) (tgt := 58) C dX7_worksOutTotals_96 (by decide) ?_
              have hFS := FS_t (al := al) c_75 c_84
              refine zj_blk (bs' := (mB G m g ga gh kn gk kp tx ln (izV g) (wyV g) wa (nrI (FS g al) al (y + 1) (nrI (NS g al) al (14) (ttI (FS g) al tt))) (nrI (FR g al) al (y + 1) (nrI (NR g al) al (14) (ttI (FR g) al rr))) we sp wr er)) (by rw [hLF, ← hFS.1, ← hFS.2, nrI_s (by omega), nrI_s (by omega)]) ?_
              refine zj_keep [true, true, true] ?_
              exact ih_58 (y + 1) (by omega) (by omega)
      · refine zj_aload_n (pc := 44) C dX7_worksOutTotals_44 rfl ?_
        refine zj_iload_n (pc := 45) C dX7_worksOutTotals_45 rfl ?_
        refine zj_iload_n (pc := 46) C dX7_worksOutTotals_46 rfl ?_
        refine zq_callFn (pc := 47) (bs' := (mB G m g ga gh kn gk kp tx ln (izV g) (wyV g) wa (updN (nrI (NS g al) al (x) (ttI (FS g) al tt)) (14 * al + x) (NS g al x)) (updN (nrI (NR g al) al (x) (ttI (FR g) al rr)) (14 * al + x) (NR g al x)) we sp wr er)) C kv_X7_103 (m_X7_tellsNear hv (by omega) (by omega)) dX7_worksOutTotals_47 rfl rfl rfl rfl rfl rfl ⟨0, rfl⟩ rfl rfl ?_
        refine zj_iinc (pc := 50) (v := nI (x + 1)) C dX7_worksOutTotals_50 rfl (nI_1 _) ?_
        refine zj_goto (pc := 53) (tgt := 38) C dX7_worksOutTotals_53 (by decide) ?_
        refine zj_blk (bs' := (mB G m g ga gh kn gk kp tx ln (izV g) (wyV g) wa (nrI (NS g al) al (x + 1) (ttI (FS g) al tt)) (nrI (NR g al) al (x + 1) (ttI (FR g) al rr)) we sp wr er)) (by rw [nrI_s (by omega), nrI_s (by omega)]) ?_
        refine zj_keep [true, true, true] ?_
        exact ih_38 (x + 1) (by omega) (by omega)
  · have hd4 : d < 4 := by omega
    refine zj_aload_n (pc := 11) C dX7_worksOutTotals_11 rfl ?_
    refine zj_iload_n (pc := 12) C dX7_worksOutTotals_12 rfl ?_
    refine zq_callFn (pc := 13) (bs' := (mB G m g ga gh kn gk kp tx ln (izV g) (blk (wyI g wy d) d (dsF g d)) wa tt rr we sp wr er)) C kv_X7_99 (m_X7_worksOut hv (by omega)) dX7_worksOutTotals_13 rfl rfl rfl rfl rfl rfl ⟨0, rfl⟩ rfl rfl ?_
    refine zj_iinc (pc := 16) (v := nI (d + 1)) C dX7_worksOutTotals_16 rfl (nI_1 _) ?_
    refine zj_goto (pc := 19) (tgt := 6) C dX7_worksOutTotals_19 (by decide) ?_
    refine zj_blk (bs' := (mB G m g ga gh kn gk kp tx ln (izV g) (wyI g wy (d + 1)) wa tt rr we sp wr er)) (by rw [wyI_s]) ?_
    refine zj_keep [true, true, false] ?_
    exact ih_6 (d + 1) (by omega) (by omega)
