theorem TBd_col {D : Nat → Nat → Nat → Nat} {di ga su ru F R : Nat → Nat} {al i : Nat} (h : TBd D di ga su ru) (h1 : ∀ x, F x ≤ 1000000) (h2 : ∀ x, R x ≤ 3) : TBd D di ga (colI su al F i) (colI ru al R i) := by
  refine ⟨h.1, h.2.1, h.2.2.1, fun k hk => ?_, fun k hk => ?_⟩
  · unfold colI
    split
    · exact h1 _
    · exact h.2.2.2.1 k hk
  · unfold colI
    split
    · exact h2 _
    · exact h.2.2.2.2 k hk
theorem st_col {su F : Nat → Nat} {al i sm : Nat} (ha : al < 12) (h0 : su (i * 12 + al) = 1000000) (hF : F i = stS sm) : (if sm < 1000000 then updN (colI su al F i) (i * 12 + al) sm else colI su al F i) = colI su al F (i + 1) := by
  unfold stS at hF
  split
  · rename_i h
    rw [if_pos h] at hF
    rw [← hF]
    exact colI_s ha
  · rename_i h
    rw [if_neg h] at hF
    exact colI_n ha (by rw [h0, hF])
theorem st_colR {ru R : Nat → Nat} {al i sm rl : Nat} (ha : al < 12) (h0 : ru (i * 12 + al) = 0) (hF : R i = stR sm rl) : (if sm < 1000000 then updN (colI ru al R i) (i * 12 + al) rl else colI ru al R i) = colI ru al R (i + 1) := by
  unfold stR at hF
  split
  · rename_i h
    rw [if_pos h] at hF
    rw [← hF]
    exact colI_s ha
  · rename_i h
    rw [if_neg h] at hF
    exact colI_n ha (by rw [h0, hF])
/-- set a value where another stands: the row's own old value is what it would be -/
theorem st_col2 {su F : Nat → Nat} {al i sm : Nat} (ha : al < 12) (h0 : su (i * 12 + al) = 1000000) (hF : F i = stS sm) : (if sm < 1000000 then updN (colI su al F i) (i * 12 + al) sm else colI su al F i) = colI su al F (i + 1) := st_col ha h0 hF
theorem colI_c {su F : Nat → Nat} {al : Nat} (h : ∀ x, x < 14 → su (x * 12 + al) = F x) : colI su al F 14 = su := by
  funext k
  unfold colI
  split
  · rename_i hk
    rw [← h _ hk.2]
    congr 1
    omega
  · rfl
theorem colI_F {su F F2 : Nat → Nat} {al n : Nat} (h : ∀ x, F x = F2 x) : colI su al F n = colI su al F2 n := by
  rw [funext h]

set_option maxRecDepth 100000 in
set_option maxHeartbeats 4000000 in
theorem m_X4_setTotal {l : Launch} {G : GG} {a : Nat → Nat} {D : Nat → Nat → Nat → Nat} {di ga su ru : Nat → Nat} {n : Nat} {x al sm rl : Nat} (hx : x < 14) (hal : al < 12) (hsm : sm < 2 ^ 31) : zX l G yX4_setTotal cX4_setTotal 5 none 1 24 0 0 [.ref (a 0), .int (nI x), .int (nI al), .int (nI sm), .int (nI rl)] (tot G a D di ga su ru n) (zF none (tot G a D di ga (if sm < 1000000 then updN su (x * 12 + al) sm else su) (if sm < 1000000 then updN ru (x * 12 + al) rl else ru) n)) := by
  refine zj_startF RX4 (by decide +kernel) rfl rfl rfl (bs := [[((a 0), .inr (4, [.ref (a 1), .ref (a 3), .ref (a 5), .ref (a 7), .ref (a 9), .int (nI n)]))], ways G (a 1) (a 2) D, tbl G (a 3) (a 4) 14 (nI 1) (nF di) 0, tbl G (a 5) (a 6) 4 (nI 1) (nF ga) 0, tbl G (a 7) (a 8) 168 (nI 12) (nF su) 0, tbl G (a 9) (a 10) 168 (nI 12) (nF ru) 0]) rfl (lo := [some (.ref (a 0)), some (.int (nI x)), some (.int (nI al)), some (.int (nI sm)), some (.int (nI rl))]) rfl ?_
  intro p0 e0 s0 m0 args0 below0 meth0 c0 A0 C hr hlocks
  refine zj_iload_n (pc := 0) C dX4_setTotal_0 rfl ?_
  refine zj_ldc (pc := 1) (v := 1000000) C dX4_setTotal_1 aq_325 ?_
  refine zj_icmp_ge (pc := 3) 27 C dX4_setTotal_3 (by decide) (fun c_3 => ?_) (fun c_3 => ?_)
  · refine zj_vretF C hr hlocks dX4_setTotal_27 ?_
    rw [show (1000000 : Int32) = nI 1000000 from rfl, nI_leI (by omega) (by omega)] at c_3
    rw [if_neg (Nat.not_lt.mpr c_3), if_neg (Nat.not_lt.mpr c_3)]
    exact rfl
  · refine zj_aload_n (pc := 6) C dX4_setTotal_6 rfl ?_
    refine gf_X4_3 (pc := 7) C dX4_setTotal_7 0 rfl ?_
    refine zj_iload_n (pc := 10) C dX4_setTotal_10 rfl ?_
    refine zj_iload_n (pc := 11) C dX4_setTotal_11 rfl ?_
    refine zj_iload_n (pc := 12) C dX4_setTotal_12 rfl ?_
    refine zj_callF1n (pc := 13) C kv_X4_81 (m_X2_put (by decide)) dX4_setTotal_13 4 rfl rfl rfl rfl rfl rfl rfl ⟨0, rfl⟩ rfl rfl ?_
    refine zj_aload_n (pc := 16) C dX4_setTotal_16 rfl ?_
    refine gf_X4_4 (pc := 17) C dX4_setTotal_17 0 rfl ?_
    refine zj_iload_n (pc := 20) C dX4_setTotal_20 rfl ?_
    refine zj_iload_n (pc := 21) C dX4_setTotal_21 rfl ?_
    refine zj_iload (pc := 22) C dX4_setTotal_22 rfl ?_
    refine zj_callF1n (pc := 24) C kv_X4_81 (m_X2_put (by decide)) dX4_setTotal_24 5 rfl rfl rfl rfl rfl rfl rfl ⟨0, rfl⟩ rfl rfl ?_
    refine zj_vretF C hr hlocks dX4_setTotal_27 ?_
    rw [show (1000000 : Int32) = nI 1000000 from rfl, nI_leI (by omega) (by omega)] at c_3
    rw [if_pos (Nat.not_le.mp c_3), if_pos (Nat.not_le.mp c_3), tPut_s hx hal, tPut_s hx hal]
    exact rfl
set_option maxRecDepth 100000 in
set_option maxHeartbeats 4000000 in
theorem m_X4_addGate {l : Launch} {G : GG} {a : Nat → Nat} {D : Nat → Nat → Nat → Nat} {di ga su ru : Nat → Nat} {n : Nat} {y sb : Nat} (hy : y < 14) (hsb : sb < 16) (hga : ∀ d, d < 4 → ga d < 2 ^ y) : zX l G yX4_addGate cX4_addGate 4 none 1 24 0 0 [.ref (a 0), .int (nI y), .int (nI sb)] (tot G a D di ga su ru n) (zF none (tot G a D di (agI ga y sb 4) su ru n)) := by
  refine zj_startF RX4 (by decide +kernel) rfl rfl rfl (bs := [[((a 0), .inr (4, [.ref (a 1), .ref (a 3), .ref (a 5), .ref (a 7), .ref (a 9), .int (nI n)]))], ways G (a 1) (a 2) D, tbl G (a 3) (a 4) 14 (nI 1) (nF di) 0, tbl G (a 5) (a 6) 4 (nI 1) (nF ga) 0, tbl G (a 7) (a 8) 168 (nI 12) (nF su) 0, tbl G (a 9) (a 10) 168 (nI 12) (nF ru) 0]) rfl (lo := [some (.ref (a 0)), some (.int (nI y)), some (.int (nI sb)), none]) rfl ?_
  intro p0 e0 s0 m0 args0 below0 meth0 c0 A0 C hr hlocks
  refine zj_iconst (pc := 0) (v := 1) C dX4_addGate_0 (by decide) ?_
  refine zj_istore_n (pc := 1) C dX4_addGate_1 (Nat.le_of_ble_eq_true rfl) ?_
  refine zj_keep [true, true, true, true] ?_
  refine zj_blk (bs' := [[((a 0), .inr (4, [.ref (a 1), .ref (a 3), .ref (a 5), .ref (a 7), .ref (a 9), .int (nI n)]))], ways G (a 1) (a 2) D, tbl G (a 3) (a 4) 14 (nI 1) (nF di) 0, tbl G (a 5) (a 6) 4 (nI 1) (nF (agI ga y sb 1)) 0, tbl G (a 7) (a 8) 168 (nI 12) (nF su) 0, tbl G (a 9) (a 10) 168 (nI 12) (nF ru) 0]) (by rw [agI_1]) ?_
  refine zj_loopW (σ := Nat) (fun x => 1 ≤ x ∧ x ≤ 4) (fun x => 4 - x) (fun x => [[((a 0), .inr (4, [.ref (a 1), .ref (a 3), .ref (a 5), .ref (a 7), .ref (a 9), .int (nI n)]))], ways G (a 1) (a 2) D, tbl G (a 3) (a 4) 14 (nI 1) (nF di) 0, tbl G (a 5) (a 6) 4 (nI 1) (nF (agI ga y sb x)) 0, tbl G (a 7) (a 8) 168 (nI 12) (nF su) 0, tbl G (a 9) (a 10) 168 (nI 12) (nF ru) 0]) (fun x => [some (.ref (a 0)), some (.int (nI y)), some (.int (nI sb)), some (.int (nI x))]) ?_ 1 ⟨Nat.le_refl _, by decide⟩
  intro k hk ih
  obtain ⟨hk1, hk2⟩ := hk
  refine zj_iload_n (pc := 2) C dX4_addGate_2 rfl ?_
  refine zj_iconst (pc := 3) (v := 4) C dX4_addGate_3 (by decide) ?_
  refine zj_icmp_ge (pc := 4) 43 C dX4_addGate_4 (by decide) (fun c_4 => ?_) (fun c_4 => ?_)
  · refine zj_vretF C hr hlocks dX4_addGate_43 ?_
    rw [show k = 4 from Nat.le_antisymm hk2 (zle c_4 (by omega))]
    exact rfl
  · have hlt : k < 4 := zlt c_4 (by omega)
    refine zj_iload_n (pc := 7) C dX4_addGate_7 rfl ?_
    refine zj_iload_n (pc := 8) C dX4_addGate_8 rfl ?_
    refine zj_ishr (pc := 9) C dX4_addGate_9 ?_
    refine zj_iconst (pc := 10) (v := 1) C dX4_addGate_10 (by decide) ?_
    refine zj_iand (pc := 11) C dX4_addGate_11 ?_
    refine zj_if_eq (pc := 12) 37 C dX4_addGate_12 (by decide) (fun c_12 => ?_) (fun c_12 => ?_)
    · have hbit : bitB sb k = false := (bitB_0 (by omega) (by omega)).mp c_12
      refine zj_iinc (pc := 37) (v := nI (k + 1)) C dX4_addGate_37 rfl (nI_1 _) ?_
      refine zj_goto (pc := 40) (tgt := 2) C dX4_addGate_40 (by decide) ?_
      refine zj_blk (bs' := [[((a 0), .inr (4, [.ref (a 1), .ref (a 3), .ref (a 5), .ref (a 7), .ref (a 9), .int (nI n)]))], ways G (a 1) (a 2) D, tbl G (a 3) (a 4) 14 (nI 1) (nF di) 0, tbl G (a 5) (a 6) 4 (nI 1) (nF (agI ga y sb (k + 1))) 0, tbl G (a 7) (a 8) 168 (nI 12) (nF su) 0, tbl G (a 9) (a 10) 168 (nI 12) (nF ru) 0]) (by rw [← agI_f hbit]) ?_
      exact ih (k + 1) ⟨by omega, by omega⟩ (by omega)
    · have hbit : bitB sb k = true := by
        cases h : bitB sb k with
        | true => rfl
        | false => exact absurd ((bitB_0 (by omega) (by omega)).mpr h) c_12
      have hself : agI ga y sb k k = ga k := if_neg (by omega)
      have hgk := hga k hlt
      refine zj_aload_n (pc := 15) C dX4_addGate_15 rfl ?_
      refine gf_X4_2 (pc := 16) C dX4_addGate_16 0 rfl ?_
      refine zj_iload_n (pc := 19) C dX4_addGate_19 rfl ?_
      refine zj_iconst (pc := 20) (v := 0) C dX4_addGate_20 (by decide) ?_
      refine zj_aload_n (pc := 21) C dX4_addGate_21 rfl ?_
      refine gf_X4_2 (pc := 22) C dX4_addGate_22 0 rfl ?_
      refine zj_iload_n (pc := 25) C dX4_addGate_25 rfl ?_
      refine zj_iconst (pc := 26) (v := 0) C dX4_addGate_26 (by decide) ?_
      refine zj_callP1 (pc := 27) C kv_X4_100 (m_X2_at (by decide)) dX4_addGate_27 3 rfl rfl rfl rfl rfl rfl rfl ⟨0, rfl⟩ rfl rfl ?_
      refine zj_top (x' := nI (ga k)) (by rw [tAt_1 hlt (by decide), hself]) ?_
      refine zj_iconst (pc := 30) (v := 1) C dX4_addGate_30 (by decide) ?_
      refine zj_iload_n (pc := 31) C dX4_addGate_31 rfl ?_
      refine zj_ishl (pc := 32) C dX4_addGate_32 ?_
      refine zj_ior (pc := 33) C dX4_addGate_33 ?_
      refine zj_top (x' := nI (ga k + 2 ^ y)) (nI_setb hgk (by omega)) ?_
      refine zj_callF1n (pc := 34) C kv_X4_81 (m_X2_put (by decide)) dX4_addGate_34 3 rfl rfl rfl rfl rfl rfl rfl ⟨0, rfl⟩ rfl rfl ?_
      refine zj_iinc (pc := 37) (v := nI (k + 1)) C dX4_addGate_37 rfl (nI_1 _) ?_
      refine zj_goto (pc := 40) (tgt := 2) C dX4_addGate_40 (by decide) ?_
      refine zj_blk (bs' := [[((a 0), .inr (4, [.ref (a 1), .ref (a 3), .ref (a 5), .ref (a 7), .ref (a 9), .int (nI n)]))], ways G (a 1) (a 2) D, tbl G (a 3) (a 4) 14 (nI 1) (nF di) 0, tbl G (a 5) (a 6) 4 (nI 1) (nF (agI ga y sb (k + 1))) 0, tbl G (a 7) (a 8) 168 (nI 12) (nF su) 0, tbl G (a 9) (a 10) 168 (nI 12) (nF ru) 0]) (by rw [← agI_t hk1 hbit, hself, ← tPut_1 hlt (by decide)]; rfl) ?_
      exact ih (k + 1) ⟨by omega, by omega⟩ (by omega)
set_option maxRecDepth 100000 in
set_option maxHeartbeats 4000000 in
theorem m_X4_findDistricts {l : Launch} {G : GG} {a : Nat → Nat} {D : Nat → Nat → Nat → Nat} {di ga su ru : Nat → Nat} {n : Nat} (hB : WB D) : zX l G yX4_findDistricts cX4_findDistricts 4 none 2 47 0 0 [.ref (a 0)] (tot G a D di ga su ru n) (zF none (tot G a D (dsV D) (gaV D) su ru n)) := by
  refine zj_startF RX4 (by decide +kernel) rfl rfl rfl (bs := [[((a 0), .inr (4, [.ref (a 1), .ref (a 3), .ref (a 5), .ref (a 7), .ref (a 9), .int (nI n)]))], ways G (a 1) (a 2) D, tbl G (a 3) (a 4) 14 (nI 1) (nF di) 0, tbl G (a 5) (a 6) 4 (nI 1) (nF ga) 0, tbl G (a 7) (a 8) 168 (nI 12) (nF su) 0, tbl G (a 9) (a 10) 168 (nI 12) (nF ru) 0]) rfl (lo := [some (.ref (a 0)), none, none, none]) rfl ?_
  intro p0 e0 s0 m0 args0 below0 meth0 c0 A0 C hr hlocks
  refine zj_iconst (pc := 0) (v := 0) C dX4_findDistricts_0 (by decide) ?_
  refine zj_istore_n (pc := 1) C dX4_findDistricts_1 (Nat.le_of_ble_eq_true rfl) ?_
  refine zj_keep [true, true, false, false] ?_
  refine zj_loopW (σ := Nat) (fun x => x ≤ 4) (fun x => 4 - x) (fun x => [[((a 0), .inr (4, [.ref (a 1), .ref (a 3), .ref (a 5), .ref (a 7), .ref (a 9), .int (nI n)]))], ways G (a 1) (a 2) D, tbl G (a 3) (a 4) 14 (nI 1) (nF di) 0, tbl G (a 5) (a 6) 4 (nI 1) (nF (zrI ga x)) 0, tbl G (a 7) (a 8) 168 (nI 12) (nF su) 0, tbl G (a 9) (a 10) 168 (nI 12) (nF ru) 0]) (fun x => [some (.ref (a 0)), some (.int (nI x)), none, none]) ?_ 0 (Nat.zero_le _)
  intro k hk ih
  refine zj_iload_n (pc := 2) C dX4_findDistricts_2 rfl ?_
  refine zj_iconst (pc := 3) (v := 4) C dX4_findDistricts_3 (by decide) ?_
  refine zj_icmp_ge (pc := 4) 23 C dX4_findDistricts_4 (by decide) (fun c_4 => ?_) (fun c_4 => ?_)
  · refine zj_iconst (pc := 23) (v := 0) C dX4_findDistricts_23 (by decide) ?_
    refine zj_istore_n (pc := 24) C dX4_findDistricts_24 (Nat.le_of_ble_eq_true rfl) ?_
    refine zj_keep [true, true, false, false] ?_
    have hk9 : k = 4 := Nat.le_antisymm hk (zle c_4 (by omega))
    refine zj_tbl 3 (nF (gaI D 0)) rfl (fun d hd => by unfold nF zrI gaI; rw [if_pos (by omega)]; split <;> rfl) ?_
    refine zj_blk (bs' := [[((a 0), .inr (4, [.ref (a 1), .ref (a 3), .ref (a 5), .ref (a 7), .ref (a 9), .int (nI n)]))], ways G (a 1) (a 2) D, tbl G (a 3) (a 4) 14 (nI 1) (nF (dsI D di 0)) 0, tbl G (a 5) (a 6) 4 (nI 1) (nF (gaI D 0)) 0, tbl G (a 7) (a 8) 168 (nI 12) (nF su) 0, tbl G (a 9) (a 10) 168 (nI 12) (nF ru) 0]) rfl ?_
    refine zj_loopW (σ := Nat) (fun x => x ≤ 14) (fun x => 14 - x) (fun x => [[((a 0), .inr (4, [.ref (a 1), .ref (a 3), .ref (a 5), .ref (a 7), .ref (a 9), .int (nI n)]))], ways G (a 1) (a 2) D, tbl G (a 3) (a 4) 14 (nI 1) (nF (dsI D di x)) 0, tbl G (a 5) (a 6) 4 (nI 1) (nF (gaI D x)) 0, tbl G (a 7) (a 8) 168 (nI 12) (nF su) 0, tbl G (a 9) (a 10) 168 (nI 12) (nF ru) 0]) (fun x => [some (.ref (a 0)), some (.int (nI x)), none, none]) ?_ 0 (Nat.zero_le _)
    intro i hi ih2
    refine zj_iload_n (pc := 25) C dX4_findDistricts_25 rfl ?_
    refine zj_bipush (pc := 26) (v := 14) C dX4_findDistricts_26 (by decide) ?_
    refine zj_icmp_ge (pc := 28) 96 C dX4_findDistricts_28 (by decide) (fun c_28 => ?_) (fun c_28 => ?_)
    · have hi9 : i = 14 := Nat.le_antisymm hi (zle c_28 (by omega))
      refine zj_tbl 2 (nF (dsV D)) rfl (fun k hk => by unfold nF dsI; rw [if_pos (by omega)]) ?_
      refine zj_blk (bs' := [[((a 0), .inr (4, [.ref (a 1), .ref (a 3), .ref (a 5), .ref (a 7), .ref (a 9), .int (nI n)]))], ways G (a 1) (a 2) D, tbl G (a 3) (a 4) 14 (nI 1) (nF (dsV D)) 0, tbl G (a 5) (a 6) 4 (nI 1) (nF (gaV D)) 0, tbl G (a 7) (a 8) 168 (nI 12) (nF su) 0, tbl G (a 9) (a 10) 168 (nI 12) (nF ru) 0]) (by rw [hi9]; rfl) ?_
      refine zj_vretF C hr hlocks dX4_findDistricts_96 ?_
      exact rfl
    · have hi14 : i < 14 := zlt c_28 (by omega)
      refine zj_iconst (pc := 31) (v := 0) C dX4_findDistricts_31 (by decide) ?_
      refine zj_istore_n (pc := 32) C dX4_findDistricts_32 (Nat.le_of_ble_eq_true rfl) ?_
      refine zj_iconst (pc := 33) (v := 0) C dX4_findDistricts_33 (by decide) ?_
      refine zj_istore_n (pc := 34) C dX4_findDistricts_34 (Nat.le_of_ble_eq_true rfl) ?_
      refine zj_keep [true, true, true, true] ?_
      refine zj_loopW (σ := Nat) (fun x => x ≤ 4) (fun x => 4 - x) (fun x => [[((a 0), .inr (4, [.ref (a 1), .ref (a 3), .ref (a 5), .ref (a 7), .ref (a 9), .int (nI n)]))], ways G (a 1) (a 2) D, tbl G (a 3) (a 4) 14 (nI 1) (nF (dsI D di i)) 0, tbl G (a 5) (a 6) 4 (nI 1) (nF (gaI D i)) 0, tbl G (a 7) (a 8) 168 (nI 12) (nF su) 0, tbl G (a 9) (a 10) 168 (nI 12) (nF ru) 0]) (fun x => [some (.ref (a 0)), some (.int (nI i)), some (.int (nI (bitS (fun d => D d i i == 0) x))), some (.int (nI x))]) ?_ 0 (Nat.zero_le _)
      intro j hj ihj
      have hbl := bitS_lt (fun d => D d i i == 0) j
      refine zj_iload_n (pc := 35) C dX4_findDistricts_35 rfl ?_
      refine zj_iconst (pc := 36) (v := 4) C dX4_findDistricts_36 (by decide) ?_
      refine zj_icmp_ge (pc := 37) 65 C dX4_findDistricts_37 (by decide) (fun c_37 => ?_) (fun c_37 => ?_)
      · have hj4 : j = 4 := Nat.le_antisymm hj (zle c_37 (by omega))
        refine zj_loc (lo' := [some (.ref (a 0)), some (.int (nI i)), some (.int (nI (dsV D i))), some (.int (nI 4))]) (by rw [hj4]; rfl) ?_
        refine zj_aload_n (pc := 65) C dX4_findDistricts_65 rfl ?_
        refine gf_X4_1 (pc := 66) C dX4_findDistricts_66 0 rfl ?_
        refine zj_iload_n (pc := 69) C dX4_findDistricts_69 rfl ?_
        refine zj_iconst (pc := 70) (v := 0) C dX4_findDistricts_70 (by decide) ?_
        refine zj_iload_n (pc := 71) C dX4_findDistricts_71 rfl ?_
        refine zj_callF1n (pc := 72) C kv_X4_81 (m_X2_put (by decide)) dX4_findDistricts_72 2 rfl rfl rfl rfl rfl rfl rfl ⟨0, rfl⟩ rfl rfl ?_
        refine zj_blk (bs' := [[((a 0), .inr (4, [.ref (a 1), .ref (a 3), .ref (a 5), .ref (a 7), .ref (a 9), .int (nI n)]))], ways G (a 1) (a 2) D, tbl G (a 3) (a 4) 14 (nI 1) (nF (dsI D di (i + 1))) 0, tbl G (a 5) (a 6) 4 (nI 1) (nF (gaI D i)) 0, tbl G (a 7) (a 8) 168 (nI 12) (nF su) 0, tbl G (a 9) (a 10) 168 (nI 12) (nF ru) 0]) (by rw [← dsI_s, ← tPut_1 hi14 (by decide)]; rfl) ?_
        refine zj_aload_n (pc := 75) C dX4_findDistricts_75 rfl ?_
        refine zj_iconst (pc := 76) (v := 0) C dX4_findDistricts_76 (by decide) ?_
        refine zj_iload_n (pc := 77) C dX4_findDistricts_77 rfl ?_
        refine zj_callPA (pc := 78) C kv_X4_93 (m_X4_isIn (d := 0) (by decide) hi14 (by rw [dsI_self]; exact dsV_lt D i)) dX4_findDistricts_78 [0, 1, 2, 3, 4, 5] [] rfl rfl rfl rfl rfl rfl rfl rfl ⟨0, rfl⟩ rfl rfl ?_
        refine zj_ifb_eq (pc := 81) 90 C dX4_findDistricts_81 (by decide) (fun c_81 => ?_) (fun c_81 => ?_)
        · have hz := c_81
          rw [dsI_self, dsV_bit (by decide)] at hz
          refine zj_iinc (pc := 90) (v := nI (i + 1)) C dX4_findDistricts_90 rfl (nI_1 _) ?_
          refine zj_goto (pc := 93) (tgt := 25) C dX4_findDistricts_93 (by decide) ?_
          refine zj_keep [true, true, false, false] ?_
          refine zj_blk (bs' := [[((a 0), .inr (4, [.ref (a 1), .ref (a 3), .ref (a 5), .ref (a 7), .ref (a 9), .int (nI n)]))], ways G (a 1) (a 2) D, tbl G (a 3) (a 4) 14 (nI 1) (nF (dsI D di (i + 1))) 0, tbl G (a 5) (a 6) 4 (nI 1) (nF (gaI D (i + 1))) 0, tbl G (a 7) (a 8) 168 (nI 12) (nF su) 0, tbl G (a 9) (a 10) 168 (nI 12) (nF ru) 0]) (by rw [← gaI_f hz]) ?_
          exact ih2 (i + 1) hi14 (by omega)
        · rw [dsI_self, dsV_bit (by decide)] at c_81
          refine zj_aload_n (pc := 84) C dX4_findDistricts_84 rfl ?_
          refine zj_iload_n (pc := 85) C dX4_findDistricts_85 rfl ?_
          refine zj_iload_n (pc := 86) C dX4_findDistricts_86 rfl ?_
          refine zj_callA (pc := 87) C kv_X4_97 (m_X4_addGate hi14 (dsV_lt D i) (fun d _ => gaI_lt D i d)) dX4_findDistricts_87 [0, 1, 2, 3, 4, 5] [] rfl rfl rfl rfl rfl rfl rfl rfl ⟨0, rfl⟩ rfl rfl (fun v w1 hq => ?_)
          obtain ⟨rfl, rfl⟩ := hq
          refine zj_blk (bs' := [[((a 0), .inr (4, [.ref (a 1), .ref (a 3), .ref (a 5), .ref (a 7), .ref (a 9), .int (nI n)]))], ways G (a 1) (a 2) D, tbl G (a 3) (a 4) 14 (nI 1) (nF (dsI D di (i + 1))) 0, tbl G (a 5) (a 6) 4 (nI 1) (nF (gaI D (i + 1))) 0, tbl G (a 7) (a 8) 168 (nI 12) (nF su) 0, tbl G (a 9) (a 10) 168 (nI 12) (nF ru) 0]) (by rw [← gaI_t c_81]; rfl) ?_
          refine zj_iinc (pc := 90) (v := nI (i + 1)) C dX4_findDistricts_90 rfl (nI_1 _) ?_
          refine zj_goto (pc := 93) (tgt := 25) C dX4_findDistricts_93 (by decide) ?_
          refine zj_keep [true, true, false, false] ?_
          exact ih2 (i + 1) hi14 (by omega)
      · have hj4 : j < 4 := zlt c_37 (by omega)
        have w1 := hB j i i (by omega) hi14 hi14
        refine zj_aload_n (pc := 40) C dX4_findDistricts_40 rfl ?_
        refine gf_X4_0 (pc := 41) C dX4_findDistricts_41 0 rfl ?_
        refine zj_iload_n (pc := 44) C dX4_findDistricts_44 rfl ?_
        refine zj_iload_n (pc := 45) C dX4_findDistricts_45 rfl ?_
        refine zj_iload_n (pc := 46) C dX4_findDistricts_46 rfl ?_
        refine zj_callP1 (pc := 47) C kv_X4_89 (m_X5_between (by omega) hi14 hi14) dX4_findDistricts_47 1 rfl rfl rfl rfl rfl rfl rfl ⟨0, rfl⟩ rfl rfl ?_
        refine zj_if_ne (pc := 50) 59 C dX4_findDistricts_50 (by decide) (fun c_50 => ?_) (fun c_50 => ?_)
        · rw [nI_z (by omega)] at c_50
          refine zj_iinc (pc := 59) (v := nI (j + 1)) C dX4_findDistricts_59 rfl (nI_1 _) ?_
          refine zj_goto (pc := 62) (tgt := 35) C dX4_findDistricts_62 (by decide) ?_
          exact zj_loc (lo' := [some (.ref (a 0)), some (.int (nI i)), some (.int (nI (bitS (fun d => D d i i == 0) (j + 1)))), some (.int (nI (j + 1)))]) (by rw [bitS_f (p := (fun d => D d i i == 0)) (by simpa using c_50)]; rfl) (ihj (j + 1) hj4 (by omega))
        · rw [nI_z (by omega)] at c_50
          refine zj_iload_n (pc := 53) C dX4_findDistricts_53 rfl ?_
          refine zj_iconst (pc := 54) (v := 1) C dX4_findDistricts_54 (by decide) ?_
          refine zj_iload_n (pc := 55) C dX4_findDistricts_55 rfl ?_
          refine zj_ishl (pc := 56) C dX4_findDistricts_56 ?_
          refine zj_ior (pc := 57) C dX4_findDistricts_57 ?_
          refine zj_top (x' := nI (bitS (fun d => D d i i == 0) j + 2 ^ j)) (nI_setb hbl (by omega)) ?_
          refine zj_istore_n (pc := 58) C dX4_findDistricts_58 (Nat.le_of_ble_eq_true rfl) ?_
          refine zj_iinc (pc := 59) (v := nI (j + 1)) C dX4_findDistricts_59 rfl (nI_1 _) ?_
          refine zj_goto (pc := 62) (tgt := 35) C dX4_findDistricts_62 (by decide) ?_
          exact zj_loc (lo' := [some (.ref (a 0)), some (.int (nI i)), some (.int (nI (bitS (fun d => D d i i == 0) (j + 1)))), some (.int (nI (j + 1)))]) (by rw [bitS_t (p := (fun d => D d i i == 0)) (by simpa using c_50)]; rfl) (ihj (j + 1) hj4 (by omega))
  · have hk4 : k < 4 := zlt c_4 (by omega)
    refine zj_aload_n (pc := 7) C dX4_findDistricts_7 rfl ?_
    refine gf_X4_2 (pc := 8) C dX4_findDistricts_8 0 rfl ?_
    refine zj_iload_n (pc := 11) C dX4_findDistricts_11 rfl ?_
    refine zj_iconst (pc := 12) (v := 0) C dX4_findDistricts_12 (by decide) ?_
    refine zj_iconst (pc := 13) (v := 0) C dX4_findDistricts_13 (by decide) ?_
    refine zj_callF1n (pc := 14) C kv_X4_81 (m_X2_put (by decide)) dX4_findDistricts_14 3 rfl rfl rfl rfl rfl rfl rfl ⟨0, rfl⟩ rfl rfl ?_
    refine zj_iinc (pc := 17) (v := nI (k + 1)) C dX4_findDistricts_17 rfl (nI_1 _) ?_
    refine zj_goto (pc := 20) (tgt := 2) C dX4_findDistricts_20 (by decide) ?_
    refine zj_blk (bs' := [[((a 0), .inr (4, [.ref (a 1), .ref (a 3), .ref (a 5), .ref (a 7), .ref (a 9), .int (nI n)]))], ways G (a 1) (a 2) D, tbl G (a 3) (a 4) 14 (nI 1) (nF di) 0, tbl G (a 5) (a 6) 4 (nI 1) (nF (zrI ga (k + 1))) 0, tbl G (a 7) (a 8) 168 (nI 12) (nF su) 0, tbl G (a 9) (a 10) 168 (nI 12) (nF ru) 0]) (by rw [← zrI_s, ← tPut_1 hk4 (by decide)]; rfl) ?_
    exact ih (k + 1) hk4 (by omega)
