/-! THE LAW'S METHODS: lanes -/
section QX
variable {l : Launch} {G : GG} {a : Nat} {g : Nat → Nat} {hn : Nat} {F : (Nat → PC) → Prop} {w0 : va_W}
theorem qx_CT3 (h : OBX G a g hn F w0) : zY l G yX6_count cX6_count 2 (some .int) 7 163 [.ref a, .int 3] w0 (.int (nI (cntB (fun x => !(gdN (dsV (dst g)) x == 0)) 14))) (OBX G a g hn F) := by
  obtain ⟨W, h⟩ := h
  obtain ⟨Qu, hX, hQ⟩ := q_CT (l := l) (x := 3) h (fun tn => v_CT3 (tn := tn) (hn := hn) (OB_v h).2.2)
  exact ⟨Qu, hX, fun v w q => ⟨(hQ v w q).1, W, (hQ v w q).2⟩⟩
theorem qx_WI {d x y r : Int32} (h : OBX G a g hn F w0) (ans : ∀ W, WOK g W → aWI W d x y = r) : zY l G yX6_within cX6_within 4 (some .int) 7 163 [.ref a, .int d, .int x, .int y] w0 (.int r) (OBX G a g hn F) := by
  obtain ⟨W, h⟩ := h
  obtain ⟨Qu, hX, hQ⟩ := q_WI (l := l) (d := d) (x := x) (y := y) h
  exact ⟨Qu, hX, fun v w q => ⟨by rw [(hQ v w q).1, ans W (OB_v h).2.2], W, (hQ v w q).2⟩⟩
end QX
section LC
variable {g : Nat → Nat}
theorem dst_n0 (hv : Vg g) {d x : Nat} (hd : d < 4) (hx : x < 14) (h : dst g d x x ≠ 0) : dst g d x x = 1000000 := by
  cases hi : inn g d x with
  | true => exact absurd (dst_in hi) h
  | false => exact (dst_out (Vg_l hv) hd hx hx hi).1
theorem lane_c (hv : Vg g) {k : Nat} (hk : k < kL g) : (clkI g k = -5 ∧ hasCk g k = false ∧ told g k = false ∧ g (lnC g k 0) = 0 ∧ g (lnC g k 1) = 0) ∨ (clkI g k = nI (ck g k) ∧ hasCk g k = true ∧ ck g k < 14 ∧ (ck g k = lnC g k 0 ∨ (ck g k ≠ lnC g k 0 ∧ ck g k = lnC g k 1)) ∧ g (lnC g k 0) ≤ g (ck g k) ∧ g (lnC g k 1) ≤ g (ck g k) ∧ 0 < g (ck g k) ∧ (g (lnC g k 0) = g (lnC g k 1) → lnC g k 0 ≤ ck g k ∧ lnC g k 1 ≤ ck g k) ∧ ((told g k = true ∧ lnC g k 4 = 0) ∨ (told g k = false ∧ lnC g k 4 ≠ 0))) := by
  obtain ⟨a, b, c, -⟩ := hv.2.2.2.1 k hk
  cases hc : hasCk g k with
  | false =>
    have hb : hasB g (lnC g k 0) (lnC g k 1) = false := hc
    refine Or.inl ⟨?_, rfl, ?_, ?_⟩
    · unfold clkI clkB
      rw [hb]
      rfl
    · unfold told
      rw [hc, Bool.and_false]
    · unfold hasB at hb
      simpa using hb
  | true =>
    have hb : hasB g (lnC g k 0) (lnC g k 1) = true := hc
    have hn : ¬ (g (lnC g k 0) = 0 ∧ g (lnC g k 1) = 0) := fun q => by rw [hasB_f q.1 q.2] at hb; cases hb
    refine Or.inr ⟨?_, rfl, ckB_lt a b, ?_⟩
    · unfold clkI clkB
      rw [hb, if_pos rfl]
      rfl
    · have ht : (told g k = true ∧ lnC g k 4 = 0) ∨ (told g k = false ∧ lnC g k 4 ≠ 0) := by
        unfold told
        rw [hc, Bool.and_true]
        by_cases h4 : lnC g k 4 = 0
        · exact Or.inl ⟨by simp [h4], h4⟩
        · exact Or.inr ⟨by simp [h4], h4⟩
      have e : ck g k = if g (lnC g k 0) = g (lnC g k 1) then max (lnC g k 0) (lnC g k 1) else if g (lnC g k 1) < g (lnC g k 0) then lnC g k 0 else lnC g k 1 := rfl
      by_cases h1 : g (lnC g k 0) = g (lnC g k 1)
      · rw [if_pos h1] at e
        rcases Nat.le_total (lnC g k 0) (lnC g k 1) with q | q
        · rw [Nat.max_eq_right q] at e
          rw [e]
          exact ⟨Or.inr ⟨fun p => c p.symm, rfl⟩, by omega, by omega, by omega, fun _ => by omega, ht⟩
        · rw [Nat.max_eq_left q] at e
          rw [e]
          exact ⟨Or.inl rfl, by omega, by omega, by omega, fun _ => by omega, ht⟩
      · rw [if_neg h1] at e
        by_cases h2 : g (lnC g k 1) < g (lnC g k 0)
        · rw [if_pos h2] at e
          rw [e]
          exact ⟨Or.inl rfl, by omega, by omega, by omega, fun q => absurd q h1, ht⟩
        · rw [if_neg h2] at e
          rw [e]
          exact ⟨Or.inr ⟨fun p => c p.symm, rfl⟩, by omega, by omega, by omega, fun q => absurd q h1, ht⟩
theorem told_c (hv : Vg g) {k : Nat} (hk : k < kL g) (ht : told g k = true) : dst g (lnC g k 3) (lnC g k 0) (lnC g k 1) ≤ lnC g k 2 ∧ 0 < dst g (lnC g k 3) (lnC g k 0) (lnC g k 1) ∧ 0 < (nI (dsV (dst g) (lnC g k 0)) &&& ((1 : Int32) <<< (nI (lnC g k 3) &&& 31))) ∧ 0 < (nI (dsV (dst g) (lnC g k 1)) &&& ((1 : Int32) <<< (nI (lnC g k 3) &&& 31))) := by
  obtain ⟨a, b, c, -, -, d4, -⟩ := hv.2.2.2.1 k hk
  obtain ⟨q1, q2, q3, q4⟩ := dF_ln (g := g) (e := clV (lnC g k 3)) hk (pL_d (d := lnC g k 3) ht rfl)
  refine ⟨q1, dst_pos hv d4 a b c, ?_, ?_⟩
  · exact and_set ⟨dsV (dst g) (lnC g k 0), dsV_lt _ _⟩ ⟨lnC g k 3, d4⟩ ((ds_bit d4).mpr q3)
  · exact and_set ⟨dsV (dst g) (lnC g k 1), dsV_lt _ _⟩ ⟨lnC g k 3, d4⟩ ((ds_bit d4).mpr q4)
theorem gd_c {c : Nat} : nI (gdN (dsV (dst g)) c) = (if dsV (dst g) c % 2 = 1 then nI (dsV (dst g) c) &&& 14 else 0) := gd_eq ⟨dsV (dst g) c, dsV_lt _ _⟩
theorem bit_d {d c : Nat} (hd : d < 4) : (dst g d c c = 0 → dsV (dst g) c / 2 ^ d % 2 = 1) ∧ (dst g d c c ≠ 0 → dsV (dst g) c / 2 ^ d % 2 = 0) := by
  have h2 : dsV (dst g) c / 2 ^ d % 2 < 2 := Nat.mod_lt _ (by decide)
  constructor
  · intro h
    have := (ds_bit hd).mpr h
    unfold bitB at this
    simpa using this
  · intro h
    have := (ds_bitf hd).mpr h
    unfold bitB at this
    have : ¬ dsV (dst g) c / 2 ^ d % 2 = 1 := by simpa using this
    omega
end LC
set_option maxRecDepth 100000 in
set_option maxHeartbeats 4000000 in
theorem m_L_areLanesSo {l : Launch} {G : GG} {a : Nat} {g : Nat → Nat} {hn : Nat} {F : (Nat → PC) → Prop} {w0 : va_W} (h : OBX G a g hn F w0) : zX l G yL_areLanesSo cL_areLanesSo 12 (some .boolean) 8 186 0 0 [.ref a] (w0) (zQ (.int 1) (OBX G a g hn F)) := by
  refine zj_startF RL (by decide +kernel) rfl rfl rfl (bs := [w0]) (by simp) (lo := [some (.ref a), none, none, none, none, none, none, none, none, none, none, none]) rfl ?_
  intro p0 e0 s0 m0 args0 below0 meth0 c0 A0 C hr hlocks
  have hv := (OBX_v h).1
  have h24 := hv.1
  refine zj_iconst (pc := 0) (v := 0) C dL_areLanesSo_0 (by decide) ?_
  refine zj_istore_n (pc := 1) C dL_areLanesSo_1 (Nat.le_of_ble_eq_true rfl) ?_
  refine zj_iconst (pc := 2) (v := 0) C dL_areLanesSo_2 (by decide) ?_
  refine zj_istore_n (pc := 3) C dL_areLanesSo_3 (Nat.le_of_ble_eq_true rfl) ?_
  refine zj_iconst (pc := 4) (v := 0) C dL_areLanesSo_4 (by decide) ?_
  refine zj_istore_n (pc := 5) C dL_areLanesSo_5 (Nat.le_of_ble_eq_true rfl) ?_
  refine zj_iconst (pc := 6) (v := 1) C dL_areLanesSo_6 (by decide) ?_
  refine zj_istore (pc := 7) C dL_areLanesSo_7 (Nat.le_of_ble_eq_true rfl) ?_
  refine zj_iconst (pc := 9) (v := 0) C dL_areLanesSo_9 (by decide) ?_
  refine zj_istore (pc := 10) C dL_areLanesSo_10 (Nat.le_of_ble_eq_true rfl) ?_
  refine zj_keep [true, true, true, true, true, true, false, false, false, false, false, false] ?_
  refine zj_loopW (σ := Nat × va_W) (fun x => x.1 ≤ kL g ∧ OBX G a g hn F x.2) (fun x => kL g - x.1) (fun x => [x.2]) (fun x => [some (.ref a), some (.int (nI (cntB (told g) x.1))), some (.int (nI (cntB (hasCk g) x.1))), some (.int 0), some (.int 1), some (.int (nI x.1)), none, none, none, none, none, none]) ?_ (0, w0) ⟨Nat.zero_le _, h⟩
  rintro ⟨k, u0⟩ ⟨hk, hu0⟩ ih
  have hk : k ≤ kL g := hk
  refine zj_eq (bs' := [u0]) (lo' := [some (.ref a), some (.int (nI (cntB (told g) k))), some (.int (nI (cntB (hasCk g) k))), some (.int (0)), some (.int (1)), some (.int (nI (k))), none, none, none, none, none, none]) rfl rfl rfl ?_
  refine zj_iload (pc := 12) C dL_areLanesSo_12 rfl ?_
  refine zj_aload_n (pc := 14) C dL_areLanesSo_14 rfl ?_
  refine zj_iconst (pc := 15) (v := 0) C dL_areLanesSo_15 (by decide) ?_
  refine zj_callQ (pc := 16) C kv_L_24 (qx_CT hu0 (fun W tn => v_CT0)) dL_areLanesSo_16 0 rfl rfl rfl rfl rfl rfl rfl (OBX_rec hu0) rfl (fun u1 hu1 => ?_)
  refine zj_blk (bs' := [u1]) rfl ?_
  refine zj_icmp_ge (pc := 19) 351 C dL_areLanesSo_19 (by decide) (fun c_19 => ?_) (fun c_19 => ?_)
  · have hke : k = kL g := by have := (nI_leI (a := kL g) (b := k) (by omega) (by omega)).mp c_19; omega
    subst hke
    refine zj_iconst (pc := 351) (v := 0) C dL_areLanesSo_351 (by decide) ?_
    refine zj_istore (pc := 352) C dL_areLanesSo_352 (Nat.le_of_ble_eq_true rfl) ?_
    refine zj_keep [true, true, true, true, true, true, false, false, false, false, false, false] ?_
    refine zj_eq (bs' := [u1]) (lo' := [some (.ref a), some (.int (nI (cntB (told g) (kL g)))), some (.int (nI (cntB (hasCk g) (kL g)) - nI (clS g 0))), some (.int (nI (cntB (fun x => !(gdN (dsV (dst g)) x == 0)) 0))), some (.int 1), some (.int (nI 0)), none, none, none, none, none, none]) rfl (by rw [show nI (clS g 0) = 0 from rfl, Int32.sub_zero]; rfl) rfl ?_
    refine zj_keep [true, true, true, true, true, true, false, false, false, false, false, false] ?_
    refine zj_loopW (σ := Nat × va_W) (fun x => x.1 ≤ 14 ∧ OBX G a g hn F x.2) (fun x => 14 - x.1) (fun x => [x.2]) (fun x => [some (.ref a), some (.int (nI (cntB (told g) (kL g)))), some (.int (nI (cntB (hasCk g) (kL g)) - nI (clS g x.1))), some (.int (nI (cntB (fun x => !(gdN (dsV (dst g)) x == 0)) x.1))), some (.int 1), some (.int (nI x.1)), none, none, none, none, none, none]) ?_ (0, u1) ⟨Nat.zero_le _, hu1⟩
    clear ih
    rintro ⟨c, v0⟩ ⟨hc, hv0⟩ ih
    have hc : c ≤ 14 := hc
    refine zj_eq (bs' := [v0]) (lo' := [some (.ref a), some (.int (nI (cntB (told g) (kL g)))), some (.int (nI (cntB (hasCk g) (kL g)) - nI (clS g c))), some (.int (nI (cntB (fun x => !(gdN (dsV (dst g)) x == 0)) c))), some (.int (1)), some (.int (nI (c))), none, none, none, none, none, none]) rfl rfl rfl ?_
    refine zj_iload (pc := 354) C dL_areLanesSo_354 rfl ?_
    refine zj_bipush (pc := 356) (v := 14) C dL_areLanesSo_356 (by decide) ?_
    refine zj_icmp_ge (pc := 358) 500 C dL_areLanesSo_358 (by decide) (fun c_358 => ?_) (fun c_358 => ?_)
    · have hce : c = 14 := by have := (nI_leI (a := 14) (b := c) (by omega) (by omega)).mp c_358; omega
      subst hce
      refine zj_iload (pc := 500) C dL_areLanesSo_500 rfl ?_
      refine zj_if_eq (pc := 502) 531 C dL_areLanesSo_502 (by decide) (fun cq_ => absurd cq_ (by decide)) (fun _ => ?_)
      refine zj_iload_n (pc := 505) C dL_areLanesSo_505 rfl ?_
      refine zj_aload_n (pc := 506) C dL_areLanesSo_506 rfl ?_
      refine zj_iconst (pc := 507) (v := 1) C dL_areLanesSo_507 (by decide) ?_
      refine zj_callQ (pc := 508) C kv_L_24 (qx_CT hv0 (fun W tn => v_CT1)) dL_areLanesSo_508 0 rfl rfl rfl rfl rfl rfl rfl (OBX_rec hv0) rfl (fun u2 hu2 => ?_)
      refine zj_blk (bs' := [u2]) rfl ?_
      refine zj_icmp_ne (pc := 511) 531 C dL_areLanesSo_511 (by decide) (fun cq_ => absurd rfl cq_) (fun _ => ?_)
      refine zj_iload_n (pc := 514) C dL_areLanesSo_514 rfl ?_
      refine zj_if_ne (pc := 515) 531 C dL_areLanesSo_515 (by decide) (fun cq_ => absurd (by rw [cl_all hv]; exact Int32.sub_self _) cq_) (fun _ => ?_)
      refine zj_iload_n (pc := 518) C dL_areLanesSo_518 rfl ?_
      refine zj_aload_n (pc := 519) C dL_areLanesSo_519 rfl ?_
      refine zj_iconst (pc := 520) (v := 3) C dL_areLanesSo_520 (by decide) ?_
      refine zj_callQ (pc := 521) C kv_L_24 (qx_CT3 hu2) dL_areLanesSo_521 0 rfl rfl rfl rfl rfl rfl rfl (OBX_rec hu2) rfl (fun u3 hu3 => ?_)
      refine zj_blk (bs' := [u3]) rfl ?_
      refine zj_icmp_ne (pc := 524) 531 C dL_areLanesSo_524 (by decide) (fun cq_ => absurd rfl cq_) (fun _ => ?_)
      refine zj_iconst (pc := 527) (v := 1) C dL_areLanesSo_527 (by decide) ?_
      refine zj_goto (pc := 528) (tgt := 532) C dL_areLanesSo_528 (by decide) ?_
      refine zj_zret C hr hlocks dL_areLanesSo_532 (Or.inr rfl) ⟨rfl, ?_⟩
      rw [fl1]
      exact hu3
    · have hc14 : c < 14 := by have := mt (nI_leI (a := 14) (b := c) (by omega) (by omega)).mpr c_358; omega
      have hds := dsV_lt (dst g) c
      have hgd16 : gdN (dsV (dst g)) c < 16 := by unfold gdN; split <;> omega
      have hgd := gd_c (g := g) (c := c)
      refine zj_aload_n (pc := 361) C dL_areLanesSo_361 rfl ?_
      refine zj_iload (pc := 362) C dL_areLanesSo_362 rfl ?_
      refine zj_iconst (pc := 364) (v := 1) C dL_areLanesSo_364 (by decide) ?_
      refine zj_callQ (pc := 365) C kv_L_41 (qx_CO (r := nI (dsV (dst g) (c))) hv0 (fun W hW => v_CO1 hW (x := c) (by omega))) dL_areLanesSo_365 0 rfl rfl rfl rfl rfl rfl rfl (OBX_rec hv0) rfl (fun u4 hu4 => ?_)
      refine zj_blk (bs' := [u4]) rfl ?_
      refine zj_istore (pc := 368) C dL_areLanesSo_368 (Nat.le_of_ble_eq_true rfl) ?_
      refine zj_iload_n (pc := 370) C dL_areLanesSo_370 rfl ?_
      refine zj_aload_n (pc := 371) C dL_areLanesSo_371 rfl ?_
      refine zj_iload (pc := 372) C dL_areLanesSo_372 rfl ?_
      refine zj_iconst (pc := 374) (v := 3) C dL_areLanesSo_374 (by decide) ?_
      refine zj_callQ (pc := 375) C kv_L_41 (qx_CO (r := nI (cntB (fun i => hasCk g i && ck g i == (c)) (kL g))) hu4 (fun W hW => v_CO3 (x := c) (by omega))) dL_areLanesSo_375 0 rfl rfl rfl rfl rfl rfl rfl (OBX_rec hu4) rfl (fun u5 hu5 => ?_)
      refine zj_blk (bs' := [u5]) rfl ?_
      refine zj_isub (pc := 378) C dL_areLanesSo_378 ?_
      refine zj_top (x' := (nI (cntB (hasCk g) (kL g)) - nI (clS g (c + 1)))) (by rw [Int32.sub_sub, nI_add]; rfl) ?_
      refine zj_istore_n (pc := 379) C dL_areLanesSo_379 (Nat.le_of_ble_eq_true rfl) ?_
      refine zj_iload_n (pc := 380) C dL_areLanesSo_380 rfl ?_
      refine zj_aload_n (pc := 381) C dL_areLanesSo_381 rfl ?_
      refine zj_iload (pc := 382) C dL_areLanesSo_382 rfl ?_
      refine zj_iconst (pc := 384) (v := 2) C dL_areLanesSo_384 (by decide) ?_
      refine zj_callQ (pc := 385) C kv_L_41 (qx_CO (r := nI (gdN (dsV (dst g)) (c))) hu5 (fun W hW => v_CO2 hW (x := c) (by omega))) dL_areLanesSo_385 0 rfl rfl rfl rfl rfl rfl rfl (OBX_rec hu5) rfl (fun u6 hu6 => ?_)
      refine zj_blk (bs' := [u6]) rfl ?_
      refine zj_if_le (pc := 388) 395 C dL_areLanesSo_388 (by decide) (fun c_388 => ?_) (fun c_388 => ?_)
      · refine zj_iconst (pc := 395) (v := 0) C dL_areLanesSo_395 (by decide) ?_
        refine zj_iadd (pc := 396) C dL_areLanesSo_396 ?_
        refine zj_top (x' := nI (cntB (fun x => !(gdN (dsV (dst g)) x == 0)) (c + 1))) (by rw [cntB_f (p := fun x => !(gdN (dsV (dst g)) x == 0)) (by have := (nI_leI (a := gdN (dsV (dst g)) c) (b := 0) (by omega) (by omega)).mp c_388; simp; omega)]; exact Int32.add_zero _) ?_
        refine zj_istore_n (pc := 397) C dL_areLanesSo_397 (Nat.le_of_ble_eq_true rfl) ?_
        refine zj_iload (pc := 398) C dL_areLanesSo_398 rfl ?_
        refine zj_if_eq (pc := 400) 434 C dL_areLanesSo_400 (by decide) (fun cq_ => absurd cq_ (by decide)) (fun _ => ?_)
        refine zj_aload_n (pc := 403) C dL_areLanesSo_403 rfl ?_
        refine zj_iload (pc := 404) C dL_areLanesSo_404 rfl ?_
        refine zj_iconst (pc := 406) (v := 2) C dL_areLanesSo_406 (by decide) ?_
        refine zj_callQ (pc := 407) C kv_L_41 (qx_CO (r := nI (gdN (dsV (dst g)) (c))) hu6 (fun W hW => v_CO2 hW (x := c) (by omega))) dL_areLanesSo_407 0 rfl rfl rfl rfl rfl rfl rfl (OBX_rec hu6) rfl (fun u7 hu7 => ?_)
        refine zj_blk (bs' := [u7]) rfl ?_
        refine zj_iload (pc := 410) C dL_areLanesSo_410 rfl ?_
        refine zj_iconst (pc := 412) (v := 1) C dL_areLanesSo_412 (by decide) ?_
        refine zj_iand (pc := 413) C dL_areLanesSo_413 ?_
        refine zj_top (x' := nI (dsV (dst g) c % 2)) (and_1 ⟨dsV (dst g) c, hds⟩) ?_
        refine zj_iconst (pc := 414) (v := 1) C dL_areLanesSo_414 (by decide) ?_
        refine zj_icmp_ne (pc := 415) 426 C dL_areLanesSo_415 (by decide) (fun c_415 => ?_) (fun c_415 => ?_)
        · refine zj_iconst (pc := 426) (v := 0) C dL_areLanesSo_426 (by decide) ?_
          refine zj_icmp_ne (pc := 427) 434 C dL_areLanesSo_427 (by decide) (fun cq_ => absurd (by rw [hgd, if_neg (mt (nI_eq (a := dsV (dst g) c % 2) (b := 1) (by omega) (by omega)).mpr c_415)]) cq_) (fun _ => ?_)
          refine zj_iconst (pc := 430) (v := 1) C dL_areLanesSo_430 (by decide) ?_
          refine zj_goto (pc := 431) (tgt := 435) C dL_areLanesSo_431 (by decide) ?_
          refine zj_istore (pc := 435) C dL_areLanesSo_435 (Nat.le_of_ble_eq_true rfl) ?_
          refine zj_iconst (pc := 437) (v := 0) C dL_areLanesSo_437 (by decide) ?_
          refine zj_istore (pc := 438) C dL_areLanesSo_438 (Nat.le_of_ble_eq_true rfl) ?_
          refine zj_keep [true, true, true, true, true, true, true, true, false, false, false, false] ?_
          refine zj_loopW (σ := Nat × va_W) (fun x => x.1 ≤ 4 ∧ OBX G a g hn F x.2) (fun x => 4 - x.1) (fun x => [x.2]) (fun x => [some (.ref a), some (.int (nI (cntB (told g) (kL g)))), some (.int (nI (cntB (hasCk g) (kL g)) - nI (clS g (c + 1)))), some (.int (nI (cntB (fun x => !(gdN (dsV (dst g)) x == 0)) (c + 1)))), some (.int 1), some (.int (nI c)), some (.int (nI (dsV (dst g) c))), some (.int (nI x.1)), none, none, none, none]) ?_ (0, u7) ⟨Nat.zero_le _, hu7⟩
          rintro ⟨d, y0⟩ ⟨hd, hy0⟩ ihd
          have hd : d ≤ 4 := hd
          refine zj_eq (bs' := [y0]) (lo' := [some (.ref a), some (.int (nI (cntB (told g) (kL g)))), some (.int (nI (cntB (hasCk g) (kL g)) - nI (clS g (c + 1)))), some (.int (nI (cntB (fun x => !(gdN (dsV (dst g)) x == 0)) (c + 1)))), some (.int (1)), some (.int (nI (c))), some (.int (nI (dsV (dst g) c))), some (.int (nI (d))), none, none, none, none]) rfl rfl rfl ?_
          refine zj_iload (pc := 440) C dL_areLanesSo_440 rfl ?_
          refine zj_iconst (pc := 442) (v := 4) C dL_areLanesSo_442 (by decide) ?_
          refine zj_icmp_ge (pc := 443) 494 C dL_areLanesSo_443 (by decide) (fun c_443 => ?_) (fun c_443 => ?_)
          · refine zj_iinc (pc := 494) (v := nI (c + 1)) C dL_areLanesSo_494 rfl (nI_1 _) ?_
            refine zj_goto (pc := 497) (tgt := 354) C dL_areLanesSo_497 (by decide) ?_
            refine zj_keep [true, true, true, true, true, true, false, false, false, false, false, false] ?_
            exact ih (c + 1, y0) ⟨by show c + 1 ≤ 14; omega, hy0⟩ (by show 14 - (c + 1) < 14 - c; omega)
          · have hd4 : d < 4 := by have := mt (nI_leI (a := 4) (b := d) (by omega) (by omega)).mpr c_443; omega
            have hb := bit_d (g := g) (d := d) (c := c) hd4
            by_cases hdc : dst g d c c = 0
            · have hb1 := hb.1 hdc
              refine zj_iload (pc := 446) C dL_areLanesSo_446 rfl ?_
              refine zj_if_eq (pc := 448) 485 C dL_areLanesSo_448 (by decide) (fun cq_ => absurd cq_ (by decide)) (fun _ => ?_)
              refine zj_aload_n (pc := 451) C dL_areLanesSo_451 rfl ?_
              refine zj_iload (pc := 452) C dL_areLanesSo_452 rfl ?_
              refine zj_iload (pc := 454) C dL_areLanesSo_454 rfl ?_
              refine zj_iload (pc := 456) C dL_areLanesSo_456 rfl ?_
              refine zj_callQ (pc := 458) C kv_L_50 (qx_WI (r := (0 : Int32)) hy0 (fun W hW => (by rw [v_WI hW (by omega) (by omega) (by omega), hdc]; rfl))) dL_areLanesSo_458 0 rfl rfl rfl rfl rfl rfl rfl (OBX_rec hy0) rfl (fun u8 hu8 => ?_)
              refine zj_blk (bs' := [u8]) rfl ?_
              refine zj_iload (pc := 461) C dL_areLanesSo_461 rfl ?_
              refine zj_iload (pc := 463) C dL_areLanesSo_463 rfl ?_
              refine zj_ishr (pc := 465) C dL_areLanesSo_465 ?_
              refine zj_iconst (pc := 466) (v := 1) C dL_areLanesSo_466 (by decide) ?_
              refine zj_iand (pc := 467) C dL_areLanesSo_467 ?_
              refine zj_top (x' := nI (dsV (dst g) c / 2 ^ d % 2)) (nI_bit (by omega) (by omega)) ?_
              refine zj_iconst (pc := 468) (v := 1) C dL_areLanesSo_468 (by decide) ?_
              refine zj_icmp_ne (pc := 469) 476 C dL_areLanesSo_469 (by decide) (fun cq_ => absurd ((nI_eq (a := dsV (dst g) c / 2 ^ d % 2) (b := 1) (by omega) (by omega)).mpr (by omega)) cq_) (fun _ => ?_)
              refine zj_iconst (pc := 472) (v := 0) C dL_areLanesSo_472 (by decide) ?_
              refine zj_goto (pc := 473) (tgt := 478) C dL_areLanesSo_473 (by decide) ?_
              refine zj_icmp_ne (pc := 478) 485 C dL_areLanesSo_478 (by decide) (fun cq_ => absurd (by decide) cq_) (fun _ => ?_)
              refine zj_iconst (pc := 481) (v := 1) C dL_areLanesSo_481 (by decide) ?_
              refine zj_goto (pc := 482) (tgt := 486) C dL_areLanesSo_482 (by decide) ?_
              refine zj_istore (pc := 486) C dL_areLanesSo_486 (Nat.le_of_ble_eq_true rfl) ?_
              refine zj_iinc (pc := 488) (v := nI (d + 1)) C dL_areLanesSo_488 rfl (nI_1 _) ?_
              refine zj_goto (pc := 491) (tgt := 440) C dL_areLanesSo_491 (by decide) ?_
              refine zj_keep [true, true, true, true, true, true, true, true, false, false, false, false] ?_
              exact ihd (d + 1, u8) ⟨by show d + 1 ≤ 4; omega, hu8⟩ (by show 4 - (d + 1) < 4 - d; omega)
            · have hb1 := hb.2 hdc
              have hdc := dst_n0 hv hd4 (by omega) hdc
              refine zj_iload (pc := 446) C dL_areLanesSo_446 rfl ?_
              refine zj_if_eq (pc := 448) 485 C dL_areLanesSo_448 (by decide) (fun cq_ => absurd cq_ (by decide)) (fun _ => ?_)
              refine zj_aload_n (pc := 451) C dL_areLanesSo_451 rfl ?_
              refine zj_iload (pc := 452) C dL_areLanesSo_452 rfl ?_
              refine zj_iload (pc := 454) C dL_areLanesSo_454 rfl ?_
              refine zj_iload (pc := 456) C dL_areLanesSo_456 rfl ?_
              refine zj_callQ (pc := 458) C kv_L_50 (qx_WI (r := (-5 : Int32)) hy0 (fun W hW => (by rw [v_WI hW (by omega) (by omega) (by omega), hdc]; rfl))) dL_areLanesSo_458 0 rfl rfl rfl rfl rfl rfl rfl (OBX_rec hy0) rfl (fun u9 hu9 => ?_)
              refine zj_blk (bs' := [u9]) rfl ?_
              refine zj_iload (pc := 461) C dL_areLanesSo_461 rfl ?_
              refine zj_iload (pc := 463) C dL_areLanesSo_463 rfl ?_
              refine zj_ishr (pc := 465) C dL_areLanesSo_465 ?_
              refine zj_iconst (pc := 466) (v := 1) C dL_areLanesSo_466 (by decide) ?_
              refine zj_iand (pc := 467) C dL_areLanesSo_467 ?_
              refine zj_top (x' := nI (dsV (dst g) c / 2 ^ d % 2)) (nI_bit (by omega) (by omega)) ?_
              refine zj_iconst (pc := 468) (v := 1) C dL_areLanesSo_468 (by decide) ?_
              refine zj_icmp_ne (pc := 469) 476 C dL_areLanesSo_469 (by decide) (fun _ => ?_) (fun cq_ => absurd cq_ (mt (nI_eq (a := dsV (dst g) c / 2 ^ d % 2) (b := 1) (by omega) (by omega)).mp (by omega)))
              refine zj_bipush (pc := 476) (v := (-5)) C dL_areLanesSo_476 (by decide) ?_
              refine zj_icmp_ne (pc := 478) 485 C dL_areLanesSo_478 (by decide) (fun cq_ => absurd (by decide) cq_) (fun _ => ?_)
              refine zj_iconst (pc := 481) (v := 1) C dL_areLanesSo_481 (by decide) ?_
              refine zj_goto (pc := 482) (tgt := 486) C dL_areLanesSo_482 (by decide) ?_
              refine zj_istore (pc := 486) C dL_areLanesSo_486 (Nat.le_of_ble_eq_true rfl) ?_
              refine zj_iinc (pc := 488) (v := nI (d + 1)) C dL_areLanesSo_488 rfl (nI_1 _) ?_
              refine zj_goto (pc := 491) (tgt := 440) C dL_areLanesSo_491 (by decide) ?_
              refine zj_keep [true, true, true, true, true, true, true, true, false, false, false, false] ?_
              exact ihd (d + 1, u9) ⟨by show d + 1 ≤ 4; omega, hu9⟩ (by show 4 - (d + 1) < 4 - d; omega)
        · refine zj_iload (pc := 418) C dL_areLanesSo_418 rfl ?_
          refine zj_bipush (pc := 420) (v := 14) C dL_areLanesSo_420 (by decide) ?_
          refine zj_iand (pc := 422) C dL_areLanesSo_422 ?_
          refine zj_goto (pc := 423) (tgt := 427) C dL_areLanesSo_423 (by decide) ?_
          refine zj_icmp_ne (pc := 427) 434 C dL_areLanesSo_427 (by decide) (fun cq_ => absurd (by rw [hgd, if_pos ((nI_eq (a := dsV (dst g) c % 2) (b := 1) (by omega) (by omega)).mp c_415)]) cq_) (fun _ => ?_)
          refine zj_iconst (pc := 430) (v := 1) C dL_areLanesSo_430 (by decide) ?_
          refine zj_goto (pc := 431) (tgt := 435) C dL_areLanesSo_431 (by decide) ?_
          refine zj_istore (pc := 435) C dL_areLanesSo_435 (Nat.le_of_ble_eq_true rfl) ?_
          refine zj_iconst (pc := 437) (v := 0) C dL_areLanesSo_437 (by decide) ?_
          refine zj_istore (pc := 438) C dL_areLanesSo_438 (Nat.le_of_ble_eq_true rfl) ?_
          refine zj_keep [true, true, true, true, true, true, true, true, false, false, false, false] ?_
          refine zj_loopW (σ := Nat × va_W) (fun x => x.1 ≤ 4 ∧ OBX G a g hn F x.2) (fun x => 4 - x.1) (fun x => [x.2]) (fun x => [some (.ref a), some (.int (nI (cntB (told g) (kL g)))), some (.int (nI (cntB (hasCk g) (kL g)) - nI (clS g (c + 1)))), some (.int (nI (cntB (fun x => !(gdN (dsV (dst g)) x == 0)) (c + 1)))), some (.int 1), some (.int (nI c)), some (.int (nI (dsV (dst g) c))), some (.int (nI x.1)), none, none, none, none]) ?_ (0, u7) ⟨Nat.zero_le _, hu7⟩
          rintro ⟨d, y0⟩ ⟨hd, hy0⟩ ihd
          have hd : d ≤ 4 := hd
          refine zj_eq (bs' := [y0]) (lo' := [some (.ref a), some (.int (nI (cntB (told g) (kL g)))), some (.int (nI (cntB (hasCk g) (kL g)) - nI (clS g (c + 1)))), some (.int (nI (cntB (fun x => !(gdN (dsV (dst g)) x == 0)) (c + 1)))), some (.int (1)), some (.int (nI (c))), some (.int (nI (dsV (dst g) c))), some (.int (nI (d))), none, none, none, none]) rfl rfl rfl ?_
          refine zj_iload (pc := 440) C dL_areLanesSo_440 rfl ?_
          refine zj_iconst (pc := 442) (v := 4) C dL_areLanesSo_442 (by decide) ?_
          refine zj_icmp_ge (pc := 443) 494 C dL_areLanesSo_443 (by decide) (fun c_443 => ?_) (fun c_443 => ?_)
          · refine zj_iinc (pc := 494) (v := nI (c + 1)) C dL_areLanesSo_494 rfl (nI_1 _) ?_
            refine zj_goto (pc := 497) (tgt := 354) C dL_areLanesSo_497 (by decide) ?_
            refine zj_keep [true, true, true, true, true, true, false, false, false, false, false, false] ?_
            exact ih (c + 1, y0) ⟨by show c + 1 ≤ 14; omega, hy0⟩ (by show 14 - (c + 1) < 14 - c; omega)
          · have hd4 : d < 4 := by have := mt (nI_leI (a := 4) (b := d) (by omega) (by omega)).mpr c_443; omega
            have hb := bit_d (g := g) (d := d) (c := c) hd4
            by_cases hdc : dst g d c c = 0
            · have hb1 := hb.1 hdc
              refine zj_iload (pc := 446) C dL_areLanesSo_446 rfl ?_
              refine zj_if_eq (pc := 448) 485 C dL_areLanesSo_448 (by decide) (fun cq_ => absurd cq_ (by decide)) (fun _ => ?_)
              refine zj_aload_n (pc := 451) C dL_areLanesSo_451 rfl ?_
              refine zj_iload (pc := 452) C dL_areLanesSo_452 rfl ?_
              refine zj_iload (pc := 454) C dL_areLanesSo_454 rfl ?_
              refine zj_iload (pc := 456) C dL_areLanesSo_456 rfl ?_
              refine zj_callQ (pc := 458) C kv_L_50 (qx_WI (r := (0 : Int32)) hy0 (fun W hW => (by rw [v_WI hW (by omega) (by omega) (by omega), hdc]; rfl))) dL_areLanesSo_458 0 rfl rfl rfl rfl rfl rfl rfl (OBX_rec hy0) rfl (fun u10 hu10 => ?_)
              refine zj_blk (bs' := [u10]) rfl ?_
              refine zj_iload (pc := 461) C dL_areLanesSo_461 rfl ?_
              refine zj_iload (pc := 463) C dL_areLanesSo_463 rfl ?_
              refine zj_ishr (pc := 465) C dL_areLanesSo_465 ?_
              refine zj_iconst (pc := 466) (v := 1) C dL_areLanesSo_466 (by decide) ?_
              refine zj_iand (pc := 467) C dL_areLanesSo_467 ?_
              refine zj_top (x' := nI (dsV (dst g) c / 2 ^ d % 2)) (nI_bit (by omega) (by omega)) ?_
              refine zj_iconst (pc := 468) (v := 1) C dL_areLanesSo_468 (by decide) ?_
              refine zj_icmp_ne (pc := 469) 476 C dL_areLanesSo_469 (by decide) (fun cq_ => absurd ((nI_eq (a := dsV (dst g) c / 2 ^ d % 2) (b := 1) (by omega) (by omega)).mpr (by omega)) cq_) (fun _ => ?_)
              refine zj_iconst (pc := 472) (v := 0) C dL_areLanesSo_472 (by decide) ?_
              refine zj_goto (pc := 473) (tgt := 478) C dL_areLanesSo_473 (by decide) ?_
              refine zj_icmp_ne (pc := 478) 485 C dL_areLanesSo_478 (by decide) (fun cq_ => absurd (by decide) cq_) (fun _ => ?_)
              refine zj_iconst (pc := 481) (v := 1) C dL_areLanesSo_481 (by decide) ?_
              refine zj_goto (pc := 482) (tgt := 486) C dL_areLanesSo_482 (by decide) ?_
              refine zj_istore (pc := 486) C dL_areLanesSo_486 (Nat.le_of_ble_eq_true rfl) ?_
              refine zj_iinc (pc := 488) (v := nI (d + 1)) C dL_areLanesSo_488 rfl (nI_1 _) ?_
              refine zj_goto (pc := 491) (tgt := 440) C dL_areLanesSo_491 (by decide) ?_
              refine zj_keep [true, true, true, true, true, true, true, true, false, false, false, false] ?_
              exact ihd (d + 1, u10) ⟨by show d + 1 ≤ 4; omega, hu10⟩ (by show 4 - (d + 1) < 4 - d; omega)
            · have hb1 := hb.2 hdc
              have hdc := dst_n0 hv hd4 (by omega) hdc
              refine zj_iload (pc := 446) C dL_areLanesSo_446 rfl ?_
              refine zj_if_eq (pc := 448) 485 C dL_areLanesSo_448 (by decide) (fun cq_ => absurd cq_ (by decide)) (fun _ => ?_)
              refine zj_aload_n (pc := 451) C dL_areLanesSo_451 rfl ?_
              refine zj_iload (pc := 452) C dL_areLanesSo_452 rfl ?_
              refine zj_iload (pc := 454) C dL_areLanesSo_454 rfl ?_
              refine zj_iload (pc := 456) C dL_areLanesSo_456 rfl ?_
              refine zj_callQ (pc := 458) C kv_L_50 (qx_WI (r := (-5 : Int32)) hy0 (fun W hW => (by rw [v_WI hW (by omega) (by omega) (by omega), hdc]; rfl))) dL_areLanesSo_458 0 rfl rfl rfl rfl rfl rfl rfl (OBX_rec hy0) rfl (fun u11 hu11 => ?_)
              refine zj_blk (bs' := [u11]) rfl ?_
              refine zj_iload (pc := 461) C dL_areLanesSo_461 rfl ?_
              refine zj_iload (pc := 463) C dL_areLanesSo_463 rfl ?_
              refine zj_ishr (pc := 465) C dL_areLanesSo_465 ?_
              refine zj_iconst (pc := 466) (v := 1) C dL_areLanesSo_466 (by decide) ?_
              refine zj_iand (pc := 467) C dL_areLanesSo_467 ?_
              refine zj_top (x' := nI (dsV (dst g) c / 2 ^ d % 2)) (nI_bit (by omega) (by omega)) ?_
              refine zj_iconst (pc := 468) (v := 1) C dL_areLanesSo_468 (by decide) ?_
              refine zj_icmp_ne (pc := 469) 476 C dL_areLanesSo_469 (by decide) (fun _ => ?_) (fun cq_ => absurd cq_ (mt (nI_eq (a := dsV (dst g) c / 2 ^ d % 2) (b := 1) (by omega) (by omega)).mp (by omega)))
              refine zj_bipush (pc := 476) (v := (-5)) C dL_areLanesSo_476 (by decide) ?_
              refine zj_icmp_ne (pc := 478) 485 C dL_areLanesSo_478 (by decide) (fun cq_ => absurd (by decide) cq_) (fun _ => ?_)
              refine zj_iconst (pc := 481) (v := 1) C dL_areLanesSo_481 (by decide) ?_
              refine zj_goto (pc := 482) (tgt := 486) C dL_areLanesSo_482 (by decide) ?_
              refine zj_istore (pc := 486) C dL_areLanesSo_486 (Nat.le_of_ble_eq_true rfl) ?_
              refine zj_iinc (pc := 488) (v := nI (d + 1)) C dL_areLanesSo_488 rfl (nI_1 _) ?_
              refine zj_goto (pc := 491) (tgt := 440) C dL_areLanesSo_491 (by decide) ?_
              refine zj_keep [true, true, true, true, true, true, true, true, false, false, false, false] ?_
              exact ihd (d + 1, u11) ⟨by show d + 1 ≤ 4; omega, hu11⟩ (by show 4 - (d + 1) < 4 - d; omega)
      · refine zj_iconst (pc := 391) (v := 1) C dL_areLanesSo_391 (by decide) ?_
        refine zj_goto (pc := 392) (tgt := 396) C dL_areLanesSo_392 (by decide) ?_
        refine zj_iadd (pc := 396) C dL_areLanesSo_396 ?_
        refine zj_top (x' := nI (cntB (fun x => !(gdN (dsV (dst g)) x == 0)) (c + 1))) (by rw [cntB_t (p := fun x => !(gdN (dsV (dst g)) x == 0)) (by have := mt (nI_leI (a := gdN (dsV (dst g)) c) (b := 0) (by omega) (by omega)).mpr c_388; simp; omega)]; exact nI_1 _) ?_
        refine zj_istore_n (pc := 397) C dL_areLanesSo_397 (Nat.le_of_ble_eq_true rfl) ?_
        refine zj_iload (pc := 398) C dL_areLanesSo_398 rfl ?_
        refine zj_if_eq (pc := 400) 434 C dL_areLanesSo_400 (by decide) (fun cq_ => absurd cq_ (by decide)) (fun _ => ?_)
        refine zj_aload_n (pc := 403) C dL_areLanesSo_403 rfl ?_
        refine zj_iload (pc := 404) C dL_areLanesSo_404 rfl ?_
        refine zj_iconst (pc := 406) (v := 2) C dL_areLanesSo_406 (by decide) ?_
        refine zj_callQ (pc := 407) C kv_L_41 (qx_CO (r := nI (gdN (dsV (dst g)) (c))) hu6 (fun W hW => v_CO2 hW (x := c) (by omega))) dL_areLanesSo_407 0 rfl rfl rfl rfl rfl rfl rfl (OBX_rec hu6) rfl (fun u12 hu12 => ?_)
        refine zj_blk (bs' := [u12]) rfl ?_
        refine zj_iload (pc := 410) C dL_areLanesSo_410 rfl ?_
        refine zj_iconst (pc := 412) (v := 1) C dL_areLanesSo_412 (by decide) ?_
        refine zj_iand (pc := 413) C dL_areLanesSo_413 ?_
        refine zj_top (x' := nI (dsV (dst g) c % 2)) (and_1 ⟨dsV (dst g) c, hds⟩) ?_
        refine zj_iconst (pc := 414) (v := 1) C dL_areLanesSo_414 (by decide) ?_
        refine zj_icmp_ne (pc := 415) 426 C dL_areLanesSo_415 (by decide) (fun c_415 => ?_) (fun c_415 => ?_)
        · refine zj_iconst (pc := 426) (v := 0) C dL_areLanesSo_426 (by decide) ?_
          refine zj_icmp_ne (pc := 427) 434 C dL_areLanesSo_427 (by decide) (fun cq_ => absurd (by rw [hgd, if_neg (mt (nI_eq (a := dsV (dst g) c % 2) (b := 1) (by omega) (by omega)).mpr c_415)]) cq_) (fun _ => ?_)
          refine zj_iconst (pc := 430) (v := 1) C dL_areLanesSo_430 (by decide) ?_
          refine zj_goto (pc := 431) (tgt := 435) C dL_areLanesSo_431 (by decide) ?_
          refine zj_istore (pc := 435) C dL_areLanesSo_435 (Nat.le_of_ble_eq_true rfl) ?_
          refine zj_iconst (pc := 437) (v := 0) C dL_areLanesSo_437 (by decide) ?_
          refine zj_istore (pc := 438) C dL_areLanesSo_438 (Nat.le_of_ble_eq_true rfl) ?_
          refine zj_keep [true, true, true, true, true, true, true, true, false, false, false, false] ?_
          refine zj_loopW (σ := Nat × va_W) (fun x => x.1 ≤ 4 ∧ OBX G a g hn F x.2) (fun x => 4 - x.1) (fun x => [x.2]) (fun x => [some (.ref a), some (.int (nI (cntB (told g) (kL g)))), some (.int (nI (cntB (hasCk g) (kL g)) - nI (clS g (c + 1)))), some (.int (nI (cntB (fun x => !(gdN (dsV (dst g)) x == 0)) (c + 1)))), some (.int 1), some (.int (nI c)), some (.int (nI (dsV (dst g) c))), some (.int (nI x.1)), none, none, none, none]) ?_ (0, u12) ⟨Nat.zero_le _, hu12⟩
          rintro ⟨d, y0⟩ ⟨hd, hy0⟩ ihd
          have hd : d ≤ 4 := hd
          refine zj_eq (bs' := [y0]) (lo' := [some (.ref a), some (.int (nI (cntB (told g) (kL g)))), some (.int (nI (cntB (hasCk g) (kL g)) - nI (clS g (c + 1)))), some (.int (nI (cntB (fun x => !(gdN (dsV (dst g)) x == 0)) (c + 1)))), some (.int (1)), some (.int (nI (c))), some (.int (nI (dsV (dst g) c))), some (.int (nI (d))), none, none, none, none]) rfl rfl rfl ?_
          refine zj_iload (pc := 440) C dL_areLanesSo_440 rfl ?_
          refine zj_iconst (pc := 442) (v := 4) C dL_areLanesSo_442 (by decide) ?_
          refine zj_icmp_ge (pc := 443) 494 C dL_areLanesSo_443 (by decide) (fun c_443 => ?_) (fun c_443 => ?_)
          · refine zj_iinc (pc := 494) (v := nI (c + 1)) C dL_areLanesSo_494 rfl (nI_1 _) ?_
            refine zj_goto (pc := 497) (tgt := 354) C dL_areLanesSo_497 (by decide) ?_
            refine zj_keep [true, true, true, true, true, true, false, false, false, false, false, false] ?_
            exact ih (c + 1, y0) ⟨by show c + 1 ≤ 14; omega, hy0⟩ (by show 14 - (c + 1) < 14 - c; omega)
          · have hd4 : d < 4 := by have := mt (nI_leI (a := 4) (b := d) (by omega) (by omega)).mpr c_443; omega
            have hb := bit_d (g := g) (d := d) (c := c) hd4
            by_cases hdc : dst g d c c = 0
            · have hb1 := hb.1 hdc
              refine zj_iload (pc := 446) C dL_areLanesSo_446 rfl ?_
              refine zj_if_eq (pc := 448) 485 C dL_areLanesSo_448 (by decide) (fun cq_ => absurd cq_ (by decide)) (fun _ => ?_)
              refine zj_aload_n (pc := 451) C dL_areLanesSo_451 rfl ?_
              refine zj_iload (pc := 452) C dL_areLanesSo_452 rfl ?_
              refine zj_iload (pc := 454) C dL_areLanesSo_454 rfl ?_
              refine zj_iload (pc := 456) C dL_areLanesSo_456 rfl ?_
              refine zj_callQ (pc := 458) C kv_L_50 (qx_WI (r := (0 : Int32)) hy0 (fun W hW => (by rw [v_WI hW (by omega) (by omega) (by omega), hdc]; rfl))) dL_areLanesSo_458 0 rfl rfl rfl rfl rfl rfl rfl (OBX_rec hy0) rfl (fun u13 hu13 => ?_)
              refine zj_blk (bs' := [u13]) rfl ?_
              refine zj_iload (pc := 461) C dL_areLanesSo_461 rfl ?_
              refine zj_iload (pc := 463) C dL_areLanesSo_463 rfl ?_
              refine zj_ishr (pc := 465) C dL_areLanesSo_465 ?_
              refine zj_iconst (pc := 466) (v := 1) C dL_areLanesSo_466 (by decide) ?_
              refine zj_iand (pc := 467) C dL_areLanesSo_467 ?_
              refine zj_top (x' := nI (dsV (dst g) c / 2 ^ d % 2)) (nI_bit (by omega) (by omega)) ?_
              refine zj_iconst (pc := 468) (v := 1) C dL_areLanesSo_468 (by decide) ?_
              refine zj_icmp_ne (pc := 469) 476 C dL_areLanesSo_469 (by decide) (fun cq_ => absurd ((nI_eq (a := dsV (dst g) c / 2 ^ d % 2) (b := 1) (by omega) (by omega)).mpr (by omega)) cq_) (fun _ => ?_)
              refine zj_iconst (pc := 472) (v := 0) C dL_areLanesSo_472 (by decide) ?_
              refine zj_goto (pc := 473) (tgt := 478) C dL_areLanesSo_473 (by decide) ?_
              refine zj_icmp_ne (pc := 478) 485 C dL_areLanesSo_478 (by decide) (fun cq_ => absurd (by decide) cq_) (fun _ => ?_)
              refine zj_iconst (pc := 481) (v := 1) C dL_areLanesSo_481 (by decide) ?_
              refine zj_goto (pc := 482) (tgt := 486) C dL_areLanesSo_482 (by decide) ?_
              refine zj_istore (pc := 486) C dL_areLanesSo_486 (Nat.le_of_ble_eq_true rfl) ?_
              refine zj_iinc (pc := 488) (v := nI (d + 1)) C dL_areLanesSo_488 rfl (nI_1 _) ?_
              refine zj_goto (pc := 491) (tgt := 440) C dL_areLanesSo_491 (by decide) ?_
              refine zj_keep [true, true, true, true, true, true, true, true, false, false, false, false] ?_
              exact ihd (d + 1, u13) ⟨by show d + 1 ≤ 4; omega, hu13⟩ (by show 4 - (d + 1) < 4 - d; omega)
            · have hb1 := hb.2 hdc
              have hdc := dst_n0 hv hd4 (by omega) hdc
              refine zj_iload (pc := 446) C dL_areLanesSo_446 rfl ?_
              refine zj_if_eq (pc := 448) 485 C dL_areLanesSo_448 (by decide) (fun cq_ => absurd cq_ (by decide)) (fun _ => ?_)
              refine zj_aload_n (pc := 451) C dL_areLanesSo_451 rfl ?_
              refine zj_iload (pc := 452) C dL_areLanesSo_452 rfl ?_
              refine zj_iload (pc := 454) C dL_areLanesSo_454 rfl ?_
              refine zj_iload (pc := 456) C dL_areLanesSo_456 rfl ?_
              refine zj_callQ (pc := 458) C kv_L_50 (qx_WI (r := (-5 : Int32)) hy0 (fun W hW => (by rw [v_WI hW (by omega) (by omega) (by omega), hdc]; rfl))) dL_areLanesSo_458 0 rfl rfl rfl rfl rfl rfl rfl (OBX_rec hy0) rfl (fun u14 hu14 => ?_)
              refine zj_blk (bs' := [u14]) rfl ?_
              refine zj_iload (pc := 461) C dL_areLanesSo_461 rfl ?_
              refine zj_iload (pc := 463) C dL_areLanesSo_463 rfl ?_
              refine zj_ishr (pc := 465) C dL_areLanesSo_465 ?_
              refine zj_iconst (pc := 466) (v := 1) C dL_areLanesSo_466 (by decide) ?_
              refine zj_iand (pc := 467) C dL_areLanesSo_467 ?_
              refine zj_top (x' := nI (dsV (dst g) c / 2 ^ d % 2)) (nI_bit (by omega) (by omega)) ?_
              refine zj_iconst (pc := 468) (v := 1) C dL_areLanesSo_468 (by decide) ?_
              refine zj_icmp_ne (pc := 469) 476 C dL_areLanesSo_469 (by decide) (fun _ => ?_) (fun cq_ => absurd cq_ (mt (nI_eq (a := dsV (dst g) c / 2 ^ d % 2) (b := 1) (by omega) (by omega)).mp (by omega)))
              refine zj_bipush (pc := 476) (v := (-5)) C dL_areLanesSo_476 (by decide) ?_
              refine zj_icmp_ne (pc := 478) 485 C dL_areLanesSo_478 (by decide) (fun cq_ => absurd (by decide) cq_) (fun _ => ?_)
              refine zj_iconst (pc := 481) (v := 1) C dL_areLanesSo_481 (by decide) ?_
              refine zj_goto (pc := 482) (tgt := 486) C dL_areLanesSo_482 (by decide) ?_
              refine zj_istore (pc := 486) C dL_areLanesSo_486 (Nat.le_of_ble_eq_true rfl) ?_
              refine zj_iinc (pc := 488) (v := nI (d + 1)) C dL_areLanesSo_488 rfl (nI_1 _) ?_
              refine zj_goto (pc := 491) (tgt := 440) C dL_areLanesSo_491 (by decide) ?_
              refine zj_keep [true, true, true, true, true, true, true, true, false, false, false, false] ?_
              exact ihd (d + 1, u14) ⟨by show d + 1 ≤ 4; omega, hu14⟩ (by show 4 - (d + 1) < 4 - d; omega)
        · refine zj_iload (pc := 418) C dL_areLanesSo_418 rfl ?_
          refine zj_bipush (pc := 420) (v := 14) C dL_areLanesSo_420 (by decide) ?_
          refine zj_iand (pc := 422) C dL_areLanesSo_422 ?_
          refine zj_goto (pc := 423) (tgt := 427) C dL_areLanesSo_423 (by decide) ?_
          refine zj_icmp_ne (pc := 427) 434 C dL_areLanesSo_427 (by decide) (fun cq_ => absurd (by rw [hgd, if_pos ((nI_eq (a := dsV (dst g) c % 2) (b := 1) (by omega) (by omega)).mp c_415)]) cq_) (fun _ => ?_)
          refine zj_iconst (pc := 430) (v := 1) C dL_areLanesSo_430 (by decide) ?_
          refine zj_goto (pc := 431) (tgt := 435) C dL_areLanesSo_431 (by decide) ?_
          refine zj_istore (pc := 435) C dL_areLanesSo_435 (Nat.le_of_ble_eq_true rfl) ?_
          refine zj_iconst (pc := 437) (v := 0) C dL_areLanesSo_437 (by decide) ?_
          refine zj_istore (pc := 438) C dL_areLanesSo_438 (Nat.le_of_ble_eq_true rfl) ?_
          refine zj_keep [true, true, true, true, true, true, true, true, false, false, false, false] ?_
          refine zj_loopW (σ := Nat × va_W) (fun x => x.1 ≤ 4 ∧ OBX G a g hn F x.2) (fun x => 4 - x.1) (fun x => [x.2]) (fun x => [some (.ref a), some (.int (nI (cntB (told g) (kL g)))), some (.int (nI (cntB (hasCk g) (kL g)) - nI (clS g (c + 1)))), some (.int (nI (cntB (fun x => !(gdN (dsV (dst g)) x == 0)) (c + 1)))), some (.int 1), some (.int (nI c)), some (.int (nI (dsV (dst g) c))), some (.int (nI x.1)), none, none, none, none]) ?_ (0, u12) ⟨Nat.zero_le _, hu12⟩
          rintro ⟨d, y0⟩ ⟨hd, hy0⟩ ihd
          have hd : d ≤ 4 := hd
          refine zj_eq (bs' := [y0]) (lo' := [some (.ref a), some (.int (nI (cntB (told g) (kL g)))), some (.int (nI (cntB (hasCk g) (kL g)) - nI (clS g (c + 1)))), some (.int (nI (cntB (fun x => !(gdN (dsV (dst g)) x == 0)) (c + 1)))), some (.int (1)), some (.int (nI (c))), some (.int (nI (dsV (dst g) c))), some (.int (nI (d))), none, none, none, none]) rfl rfl rfl ?_
          refine zj_iload (pc := 440) C dL_areLanesSo_440 rfl ?_
          refine zj_iconst (pc := 442) (v := 4) C dL_areLanesSo_442 (by decide) ?_
          refine zj_icmp_ge (pc := 443) 494 C dL_areLanesSo_443 (by decide) (fun c_443 => ?_) (fun c_443 => ?_)
          · refine zj_iinc (pc := 494) (v := nI (c + 1)) C dL_areLanesSo_494 rfl (nI_1 _) ?_
            refine zj_goto (pc := 497) (tgt := 354) C dL_areLanesSo_497 (by decide) ?_
            refine zj_keep [true, true, true, true, true, true, false, false, false, false, false, false] ?_
            exact ih (c + 1, y0) ⟨by show c + 1 ≤ 14; omega, hy0⟩ (by show 14 - (c + 1) < 14 - c; omega)
          · have hd4 : d < 4 := by have := mt (nI_leI (a := 4) (b := d) (by omega) (by omega)).mpr c_443; omega
            have hb := bit_d (g := g) (d := d) (c := c) hd4
            by_cases hdc : dst g d c c = 0
            · have hb1 := hb.1 hdc
              refine zj_iload (pc := 446) C dL_areLanesSo_446 rfl ?_
              refine zj_if_eq (pc := 448) 485 C dL_areLanesSo_448 (by decide) (fun cq_ => absurd cq_ (by decide)) (fun _ => ?_)
              refine zj_aload_n (pc := 451) C dL_areLanesSo_451 rfl ?_
              refine zj_iload (pc := 452) C dL_areLanesSo_452 rfl ?_
              refine zj_iload (pc := 454) C dL_areLanesSo_454 rfl ?_
              refine zj_iload (pc := 456) C dL_areLanesSo_456 rfl ?_
              refine zj_callQ (pc := 458) C kv_L_50 (qx_WI (r := (0 : Int32)) hy0 (fun W hW => (by rw [v_WI hW (by omega) (by omega) (by omega), hdc]; rfl))) dL_areLanesSo_458 0 rfl rfl rfl rfl rfl rfl rfl (OBX_rec hy0) rfl (fun u15 hu15 => ?_)
              refine zj_blk (bs' := [u15]) rfl ?_
              refine zj_iload (pc := 461) C dL_areLanesSo_461 rfl ?_
              refine zj_iload (pc := 463) C dL_areLanesSo_463 rfl ?_
              refine zj_ishr (pc := 465) C dL_areLanesSo_465 ?_
              refine zj_iconst (pc := 466) (v := 1) C dL_areLanesSo_466 (by decide) ?_
              refine zj_iand (pc := 467) C dL_areLanesSo_467 ?_
              refine zj_top (x' := nI (dsV (dst g) c / 2 ^ d % 2)) (nI_bit (by omega) (by omega)) ?_
              refine zj_iconst (pc := 468) (v := 1) C dL_areLanesSo_468 (by decide) ?_
              refine zj_icmp_ne (pc := 469) 476 C dL_areLanesSo_469 (by decide) (fun cq_ => absurd ((nI_eq (a := dsV (dst g) c / 2 ^ d % 2) (b := 1) (by omega) (by omega)).mpr (by omega)) cq_) (fun _ => ?_)
              refine zj_iconst (pc := 472) (v := 0) C dL_areLanesSo_472 (by decide) ?_
              refine zj_goto (pc := 473) (tgt := 478) C dL_areLanesSo_473 (by decide) ?_
              refine zj_icmp_ne (pc := 478) 485 C dL_areLanesSo_478 (by decide) (fun cq_ => absurd (by decide) cq_) (fun _ => ?_)
              refine zj_iconst (pc := 481) (v := 1) C dL_areLanesSo_481 (by decide) ?_
              refine zj_goto (pc := 482) (tgt := 486) C dL_areLanesSo_482 (by decide) ?_
              refine zj_istore (pc := 486) C dL_areLanesSo_486 (Nat.le_of_ble_eq_true rfl) ?_
              refine zj_iinc (pc := 488) (v := nI (d + 1)) C dL_areLanesSo_488 rfl (nI_1 _) ?_
              refine zj_goto (pc := 491) (tgt := 440) C dL_areLanesSo_491 (by decide) ?_
              refine zj_keep [true, true, true, true, true, true, true, true, false, false, false, false] ?_
              exact ihd (d + 1, u15) ⟨by show d + 1 ≤ 4; omega, hu15⟩ (by show 4 - (d + 1) < 4 - d; omega)
            · have hb1 := hb.2 hdc
              have hdc := dst_n0 hv hd4 (by omega) hdc
              refine zj_iload (pc := 446) C dL_areLanesSo_446 rfl ?_
              refine zj_if_eq (pc := 448) 485 C dL_areLanesSo_448 (by decide) (fun cq_ => absurd cq_ (by decide)) (fun _ => ?_)
              refine zj_aload_n (pc := 451) C dL_areLanesSo_451 rfl ?_
              refine zj_iload (pc := 452) C dL_areLanesSo_452 rfl ?_
              refine zj_iload (pc := 454) C dL_areLanesSo_454 rfl ?_
              refine zj_iload (pc := 456) C dL_areLanesSo_456 rfl ?_
              refine zj_callQ (pc := 458) C kv_L_50 (qx_WI (r := (-5 : Int32)) hy0 (fun W hW => (by rw [v_WI hW (by omega) (by omega) (by omega), hdc]; rfl))) dL_areLanesSo_458 0 rfl rfl rfl rfl rfl rfl rfl (OBX_rec hy0) rfl (fun u16 hu16 => ?_)
              refine zj_blk (bs' := [u16]) rfl ?_
              refine zj_iload (pc := 461) C dL_areLanesSo_461 rfl ?_
              refine zj_iload (pc := 463) C dL_areLanesSo_463 rfl ?_
              refine zj_ishr (pc := 465) C dL_areLanesSo_465 ?_
              refine zj_iconst (pc := 466) (v := 1) C dL_areLanesSo_466 (by decide) ?_
              refine zj_iand (pc := 467) C dL_areLanesSo_467 ?_
              refine zj_top (x' := nI (dsV (dst g) c / 2 ^ d % 2)) (nI_bit (by omega) (by omega)) ?_
              refine zj_iconst (pc := 468) (v := 1) C dL_areLanesSo_468 (by decide) ?_
              refine zj_icmp_ne (pc := 469) 476 C dL_areLanesSo_469 (by decide) (fun _ => ?_) (fun cq_ => absurd cq_ (mt (nI_eq (a := dsV (dst g) c / 2 ^ d % 2) (b := 1) (by omega) (by omega)).mp (by omega)))
              refine zj_bipush (pc := 476) (v := (-5)) C dL_areLanesSo_476 (by decide) ?_
              refine zj_icmp_ne (pc := 478) 485 C dL_areLanesSo_478 (by decide) (fun cq_ => absurd (by decide) cq_) (fun _ => ?_)
              refine zj_iconst (pc := 481) (v := 1) C dL_areLanesSo_481 (by decide) ?_
              refine zj_goto (pc := 482) (tgt := 486) C dL_areLanesSo_482 (by decide) ?_
              refine zj_istore (pc := 486) C dL_areLanesSo_486 (Nat.le_of_ble_eq_true rfl) ?_
              refine zj_iinc (pc := 488) (v := nI (d + 1)) C dL_areLanesSo_488 rfl (nI_1 _) ?_
              refine zj_goto (pc := 491) (tgt := 440) C dL_areLanesSo_491 (by decide) ?_
              refine zj_keep [true, true, true, true, true, true, true, true, false, false, false, false] ?_
              exact ihd (d + 1, u16) ⟨by show d + 1 ≤ 4; omega, hu16⟩ (by show 4 - (d + 1) < 4 - d; omega)
  · have hkl : k < kL g := by have := mt (nI_leI (a := kL g) (b := k) (by omega) (by omega)).mpr c_19; omega
    obtain ⟨e14, f14, hne, l1, l20, d4, b1⟩ := hv.2.2.2.1 k hkl
    have rk0 := hv.2.2.1 _ e14
    have rk1 := hv.2.2.1 _ f14
    rcases lane_c hv hkl with ⟨hck, hh, ht, r0, r1⟩ | ⟨hck, hh, c14, (hce | ⟨hcn, hce⟩), r0, r1, rp, hge, (⟨ht, ht4⟩ | ⟨ht, ht4⟩)⟩
    · refine zj_aload_n (pc := 22) C dL_areLanesSo_22 rfl ?_
      refine zj_iload (pc := 23) C dL_areLanesSo_23 rfl ?_
      refine zj_iconst (pc := 25) (v := 0) C dL_areLanesSo_25 (by decide) ?_
      refine zj_callQ (pc := 26) C kv_L_44 (qx_LO hu1) dL_areLanesSo_26 0 rfl rfl rfl rfl rfl rfl rfl (OBX_rec hu1) rfl (fun u17 hu17 => ?_)
      refine zj_blk (bs' := [u17]) rfl ?_
      refine zj_top (x' := nI (lnC g (k) 0)) (v_LO hv (k := k) (c := 0) (by omega) (by decide)) ?_
      refine zj_istore (pc := 29) C dL_areLanesSo_29 (Nat.le_of_ble_eq_true rfl) ?_
      refine zj_aload_n (pc := 31) C dL_areLanesSo_31 rfl ?_
      refine zj_iload (pc := 32) C dL_areLanesSo_32 rfl ?_
      refine zj_iconst (pc := 34) (v := 1) C dL_areLanesSo_34 (by decide) ?_
      refine zj_callQ (pc := 35) C kv_L_44 (qx_LO hu17) dL_areLanesSo_35 0 rfl rfl rfl rfl rfl rfl rfl (OBX_rec hu17) rfl (fun u18 hu18 => ?_)
      refine zj_blk (bs' := [u18]) rfl ?_
      refine zj_top (x' := nI (lnC g (k) 1)) (v_LO hv (k := k) (c := 1) (by omega) (by decide)) ?_
      refine zj_istore (pc := 38) C dL_areLanesSo_38 (Nat.le_of_ble_eq_true rfl) ?_
      refine zj_aload_n (pc := 40) C dL_areLanesSo_40 rfl ?_
      refine zj_iload (pc := 41) C dL_areLanesSo_41 rfl ?_
      refine zj_iconst (pc := 43) (v := 5) C dL_areLanesSo_43 (by decide) ?_
      refine zj_callQ (pc := 44) C kv_L_44 (qx_LO hu18) dL_areLanesSo_44 0 rfl rfl rfl rfl rfl rfl rfl (OBX_rec hu18) rfl (fun u19 hu19 => ?_)
      refine zj_blk (bs' := [u19]) rfl ?_
      refine zj_top (x' := (-5 : Int32)) ((v_LO5 hv (k := k) (by omega)).trans hck) ?_
      refine zj_istore (pc := 47) C dL_areLanesSo_47 (Nat.le_of_ble_eq_true rfl) ?_
      refine zj_iload (pc := 49) C dL_areLanesSo_49 rfl ?_
      refine zj_if_ge (pc := 51) 58 C dL_areLanesSo_51 (by decide) (fun cq_ => absurd cq_ (by decide)) (fun _ => ?_)
      refine zj_iconst (pc := 54) (v := 0) C dL_areLanesSo_54 (by decide) ?_
      refine zj_goto (pc := 55) (tgt := 65) C dL_areLanesSo_55 (by decide) ?_
      refine zj_istore (pc := 65) C dL_areLanesSo_65 (Nat.le_of_ble_eq_true rfl) ?_
      refine zj_iconst (pc := 67) (v := 1) C dL_areLanesSo_67 (by decide) ?_
      refine zj_aload_n (pc := 68) C dL_areLanesSo_68 rfl ?_
      refine zj_iload (pc := 69) C dL_areLanesSo_69 rfl ?_
      refine zj_iconst (pc := 71) (v := 3) C dL_areLanesSo_71 (by decide) ?_
      refine zj_callQ (pc := 72) C kv_L_44 (qx_LO hu19) dL_areLanesSo_72 0 rfl rfl rfl rfl rfl rfl rfl (OBX_rec hu19) rfl (fun u20 hu20 => ?_)
      refine zj_blk (bs' := [u20]) rfl ?_
      refine zj_top (x' := nI (lnC g (k) 3)) (v_LO hv (k := k) (c := 3) (by omega) (by decide)) ?_
      refine zj_ishl (pc := 75) C dL_areLanesSo_75 ?_
      refine zj_istore (pc := 76) C dL_areLanesSo_76 (Nat.le_of_ble_eq_true rfl) ?_
      refine zj_aload_n (pc := 78) C dL_areLanesSo_78 rfl ?_
      refine zj_iload (pc := 79) C dL_areLanesSo_79 rfl ?_
      refine zj_bipush (pc := 81) (v := 6) C dL_areLanesSo_81 (by decide) ?_
      refine zj_callQ (pc := 83) C kv_L_44 (qx_LO hu20) dL_areLanesSo_83 0 rfl rfl rfl rfl rfl rfl rfl (OBX_rec hu20) rfl (fun u21 hu21 => ?_)
      refine zj_blk (bs' := [u21]) rfl ?_
      refine zj_top (x' := (0 : Int32)) ((v_LO6 hv (k := k) (by omega)).trans (by rw [ht]; rfl)) ?_
      refine zj_iconst (pc := 86) (v := 1) C dL_areLanesSo_86 (by decide) ?_
      refine zj_icmp_ne (pc := 87) 94 C dL_areLanesSo_87 (by decide) (fun _ => ?_) (fun cq_ => absurd cq_ (by decide))
      refine zj_iconst (pc := 94) (v := 0) C dL_areLanesSo_94 (by decide) ?_
      refine zj_istore (pc := 95) C dL_areLanesSo_95 (Nat.le_of_ble_eq_true rfl) ?_
      refine zj_iload_n (pc := 97) C dL_areLanesSo_97 rfl ?_
      refine zj_iload (pc := 98) C dL_areLanesSo_98 rfl ?_
      refine zj_if_eq (pc := 100) 107 C dL_areLanesSo_100 (by decide) (fun _ => ?_) (fun cq_ => absurd (by decide) cq_)
      refine zj_iconst (pc := 107) (v := 0) C dL_areLanesSo_107 (by decide) ?_
      refine zj_iadd (pc := 108) C dL_areLanesSo_108 ?_
      refine zj_top (x' := nI (cntB (told g) (k + 1))) (by rw [cntB_f ht]; exact Int32.add_zero _) ?_
      refine zj_istore_n (pc := 109) C dL_areLanesSo_109 (Nat.le_of_ble_eq_true rfl) ?_
      refine zj_iload_n (pc := 110) C dL_areLanesSo_110 rfl ?_
      refine zj_iload (pc := 111) C dL_areLanesSo_111 rfl ?_
      refine zj_if_lt (pc := 113) 120 C dL_areLanesSo_113 (by decide) (fun _ => ?_) (fun cq_ => absurd (by decide) cq_)
      refine zj_iconst (pc := 120) (v := 0) C dL_areLanesSo_120 (by decide) ?_
      refine zj_iadd (pc := 121) C dL_areLanesSo_121 ?_
      refine zj_top (x' := nI (cntB (hasCk g) (k + 1))) (by rw [cntB_f hh]; exact Int32.add_zero _) ?_
      refine zj_istore_n (pc := 122) C dL_areLanesSo_122 (Nat.le_of_ble_eq_true rfl) ?_
      refine zj_iload (pc := 123) C dL_areLanesSo_123 rfl ?_
      refine zj_if_eq (pc := 125) 342 C dL_areLanesSo_125 (by decide) (fun cq_ => absurd cq_ (by decide)) (fun _ => ?_)
      refine zj_iload (pc := 128) C dL_areLanesSo_128 rfl ?_
      refine zj_iload (pc := 130) C dL_areLanesSo_130 rfl ?_
      refine zj_icmp_eq (pc := 132) 342 C dL_areLanesSo_132 (by decide) (fun cq_ => absurd cq_ (mt (nI_eq (a := lnC g (k) 0) (b := lnC g (k) 1) (by omega) (by omega)).mp (by omega))) (fun _ => ?_)
      refine zj_iload (pc := 135) C dL_areLanesSo_135 rfl ?_
      refine zj_iload (pc := 137) C dL_areLanesSo_137 rfl ?_
      refine zj_icmp_eq (pc := 139) 156 C dL_areLanesSo_139 (by decide) (fun cq_ => absurd cq_ (fun q => nI_ne5 (a := lnC g (k) 0) (by omega) q.symm)) (fun _ => ?_)
      refine zj_iload (pc := 142) C dL_areLanesSo_142 rfl ?_
      refine zj_iload (pc := 144) C dL_areLanesSo_144 rfl ?_
      refine zj_icmp_eq (pc := 146) 156 C dL_areLanesSo_146 (by decide) (fun cq_ => absurd cq_ (fun q => nI_ne5 (a := lnC g (k) 1) (by omega) q.symm)) (fun _ => ?_)
      refine zj_iload (pc := 149) C dL_areLanesSo_149 rfl ?_
      refine zj_bipush (pc := 151) (v := (-5)) C dL_areLanesSo_151 (by decide) ?_
      refine zj_icmp_ne (pc := 153) 342 C dL_areLanesSo_153 (by decide) (fun cq_ => absurd (by decide) cq_) (fun _ => ?_)
      refine zj_aload_n (pc := 156) C dL_areLanesSo_156 rfl ?_
      refine zj_iload (pc := 157) C dL_areLanesSo_157 rfl ?_
      refine zj_iconst (pc := 159) (v := 0) C dL_areLanesSo_159 (by decide) ?_
      refine zj_callQ (pc := 160) C kv_L_41 (qx_CO (r := nI (g (lnC g (k) 0))) hu21 (fun W hW => v_CO0 (x := lnC g (k) 0) (by omega))) dL_areLanesSo_160 0 rfl rfl rfl rfl rfl rfl rfl (OBX_rec hu21) rfl (fun u22 hu22 => ?_)
      refine zj_blk (bs' := [u22]) rfl ?_
      refine zj_iload (pc := 163) C dL_areLanesSo_163 rfl ?_
      refine zj_icmp_gt (pc := 165) 342 C dL_areLanesSo_165 (by decide) (fun cq_ => absurd cq_ (mt (nI_ltI (a := 0) (b := g (lnC g (k) 0)) (by omega) (by omega)).mp (by omega))) (fun _ => ?_)
      refine zj_aload_n (pc := 168) C dL_areLanesSo_168 rfl ?_
      refine zj_iload (pc := 169) C dL_areLanesSo_169 rfl ?_
      refine zj_iconst (pc := 171) (v := 0) C dL_areLanesSo_171 (by decide) ?_
      refine zj_callQ (pc := 172) C kv_L_41 (qx_CO (r := nI (g (lnC g (k) 1))) hu22 (fun W hW => v_CO0 (x := lnC g (k) 1) (by omega))) dL_areLanesSo_172 0 rfl rfl rfl rfl rfl rfl rfl (OBX_rec hu22) rfl (fun u23 hu23 => ?_)
      refine zj_blk (bs' := [u23]) rfl ?_
      refine zj_iload (pc := 175) C dL_areLanesSo_175 rfl ?_
      refine zj_icmp_gt (pc := 177) 342 C dL_areLanesSo_177 (by decide) (fun cq_ => absurd cq_ (mt (nI_ltI (a := 0) (b := g (lnC g (k) 1)) (by omega) (by omega)).mp (by omega))) (fun _ => ?_)
      refine zj_iload (pc := 180) C dL_areLanesSo_180 rfl ?_
      refine zj_if_lt (pc := 182) 189 C dL_areLanesSo_182 (by decide) (fun _ => ?_) (fun cq_ => absurd (by decide) cq_)
      refine zj_iconst (pc := 189) (v := 0) C dL_areLanesSo_189 (by decide) ?_
      refine zj_iload (pc := 190) C dL_areLanesSo_190 rfl ?_
      refine zj_if_le (pc := 192) 199 C dL_areLanesSo_192 (by decide) (fun _ => ?_) (fun cq_ => absurd (by decide) cq_)
      refine zj_iconst (pc := 199) (v := 0) C dL_areLanesSo_199 (by decide) ?_
      refine zj_icmp_ne (pc := 200) 342 C dL_areLanesSo_200 (by decide) (fun cq_ => absurd (by decide) cq_) (fun _ => ?_)
      refine zj_iload (pc := 203) C dL_areLanesSo_203 rfl ?_
      refine zj_if_lt (pc := 205) 239 C dL_areLanesSo_205 (by decide) (fun _ => ?_) (fun cq_ => absurd (by decide) cq_)
      refine zj_iload (pc := 239) C dL_areLanesSo_239 rfl ?_
      refine zj_aload_n (pc := 241) C dL_areLanesSo_241 rfl ?_
      refine zj_iload (pc := 242) C dL_areLanesSo_242 rfl ?_
      refine zj_iconst (pc := 244) (v := 4) C dL_areLanesSo_244 (by decide) ?_
      refine zj_callQ (pc := 245) C kv_L_44 (qx_LO hu23) dL_areLanesSo_245 0 rfl rfl rfl rfl rfl rfl rfl (OBX_rec hu23) rfl (fun u24 hu24 => ?_)
      refine zj_blk (bs' := [u24]) rfl ?_
      refine zj_top (x' := nI (lnC g (k) 4)) (v_LO hv (k := k) (c := 4) (by omega) (by decide)) ?_
      refine zj_if_ne (pc := 248) 260 C dL_areLanesSo_248 (by decide) (fun c_248 => ?_) (fun c_248 => ?_)
      · refine zj_iconst (pc := 260) (v := 0) C dL_areLanesSo_260 (by decide) ?_
        refine zj_icmp_ne (pc := 261) 342 C dL_areLanesSo_261 (by decide) (fun cq_ => absurd (by decide) cq_) (fun _ => ?_)
        refine zj_iload (pc := 264) C dL_areLanesSo_264 rfl ?_
        refine zj_if_eq (pc := 266) 338 C dL_areLanesSo_266 (by decide) (fun _ => ?_) (fun cq_ => absurd (by decide) cq_)
        refine zj_iconst (pc := 338) (v := 1) C dL_areLanesSo_338 (by decide) ?_
        refine zj_goto (pc := 339) (tgt := 343) C dL_areLanesSo_339 (by decide) ?_
        refine zj_istore (pc := 343) C dL_areLanesSo_343 (Nat.le_of_ble_eq_true rfl) ?_
        refine zj_iinc (pc := 345) (v := nI (k + 1)) C dL_areLanesSo_345 rfl (nI_1 _) ?_
        refine zj_goto (pc := 348) (tgt := 12) C dL_areLanesSo_348 (by decide) ?_
        refine zj_keep [true, true, true, true, true, true, false, false, false, false, false, false] ?_
        exact ih (k + 1, u24) ⟨by show k + 1 ≤ kL g; omega, hu24⟩ (by show kL g - (k + 1) < kL g - k; omega)
      · refine zj_iload (pc := 251) C dL_areLanesSo_251 rfl ?_
        refine zj_if_lt (pc := 253) 260 C dL_areLanesSo_253 (by decide) (fun _ => ?_) (fun cq_ => absurd (by decide) cq_)
        refine zj_iconst (pc := 260) (v := 0) C dL_areLanesSo_260 (by decide) ?_
        refine zj_icmp_ne (pc := 261) 342 C dL_areLanesSo_261 (by decide) (fun cq_ => absurd (by decide) cq_) (fun _ => ?_)
        refine zj_iload (pc := 264) C dL_areLanesSo_264 rfl ?_
        refine zj_if_eq (pc := 266) 338 C dL_areLanesSo_266 (by decide) (fun _ => ?_) (fun cq_ => absurd (by decide) cq_)
        refine zj_iconst (pc := 338) (v := 1) C dL_areLanesSo_338 (by decide) ?_
        refine zj_goto (pc := 339) (tgt := 343) C dL_areLanesSo_339 (by decide) ?_
        refine zj_istore (pc := 343) C dL_areLanesSo_343 (Nat.le_of_ble_eq_true rfl) ?_
        refine zj_iinc (pc := 345) (v := nI (k + 1)) C dL_areLanesSo_345 rfl (nI_1 _) ?_
        refine zj_goto (pc := 348) (tgt := 12) C dL_areLanesSo_348 (by decide) ?_
        refine zj_keep [true, true, true, true, true, true, false, false, false, false, false, false] ?_
        exact ih (k + 1, u24) ⟨by show k + 1 ≤ kL g; omega, hu24⟩ (by show kL g - (k + 1) < kL g - k; omega)
    · have rkc := hv.2.2.1 _ c14
      refine zj_aload_n (pc := 22) C dL_areLanesSo_22 rfl ?_
      refine zj_iload (pc := 23) C dL_areLanesSo_23 rfl ?_
      refine zj_iconst (pc := 25) (v := 0) C dL_areLanesSo_25 (by decide) ?_
      refine zj_callQ (pc := 26) C kv_L_44 (qx_LO hu1) dL_areLanesSo_26 0 rfl rfl rfl rfl rfl rfl rfl (OBX_rec hu1) rfl (fun u25 hu25 => ?_)
      refine zj_blk (bs' := [u25]) rfl ?_
      refine zj_top (x' := nI (lnC g (k) 0)) (v_LO hv (k := k) (c := 0) (by omega) (by decide)) ?_
      refine zj_istore (pc := 29) C dL_areLanesSo_29 (Nat.le_of_ble_eq_true rfl) ?_
      refine zj_aload_n (pc := 31) C dL_areLanesSo_31 rfl ?_
      refine zj_iload (pc := 32) C dL_areLanesSo_32 rfl ?_
      refine zj_iconst (pc := 34) (v := 1) C dL_areLanesSo_34 (by decide) ?_
      refine zj_callQ (pc := 35) C kv_L_44 (qx_LO hu25) dL_areLanesSo_35 0 rfl rfl rfl rfl rfl rfl rfl (OBX_rec hu25) rfl (fun u26 hu26 => ?_)
      refine zj_blk (bs' := [u26]) rfl ?_
      refine zj_top (x' := nI (lnC g (k) 1)) (v_LO hv (k := k) (c := 1) (by omega) (by decide)) ?_
      refine zj_istore (pc := 38) C dL_areLanesSo_38 (Nat.le_of_ble_eq_true rfl) ?_
      refine zj_aload_n (pc := 40) C dL_areLanesSo_40 rfl ?_
      refine zj_iload (pc := 41) C dL_areLanesSo_41 rfl ?_
      refine zj_iconst (pc := 43) (v := 5) C dL_areLanesSo_43 (by decide) ?_
      refine zj_callQ (pc := 44) C kv_L_44 (qx_LO hu26) dL_areLanesSo_44 0 rfl rfl rfl rfl rfl rfl rfl (OBX_rec hu26) rfl (fun u27 hu27 => ?_)
      refine zj_blk (bs' := [u27]) rfl ?_
      refine zj_top (x' := nI (ck g k)) ((v_LO5 hv (k := k) (by omega)).trans hck) ?_
      refine zj_istore (pc := 47) C dL_areLanesSo_47 (Nat.le_of_ble_eq_true rfl) ?_
      refine zj_iload (pc := 49) C dL_areLanesSo_49 rfl ?_
      refine zj_if_ge (pc := 51) 58 C dL_areLanesSo_51 (by decide) (fun _ => ?_) (fun cq_ => absurd ((nI_leI (a := 0) (b := ck g k) (by omega) (by omega)).mpr (by omega)) cq_)
      refine zj_aload_n (pc := 58) C dL_areLanesSo_58 rfl ?_
      refine zj_iload (pc := 59) C dL_areLanesSo_59 rfl ?_
      refine zj_iconst (pc := 61) (v := 0) C dL_areLanesSo_61 (by decide) ?_
      refine zj_callQ (pc := 62) C kv_L_41 (qx_CO (r := nI (g (ck g k))) hu27 (fun W hW => v_CO0 (x := ck g k) (by omega))) dL_areLanesSo_62 0 rfl rfl rfl rfl rfl rfl rfl (OBX_rec hu27) rfl (fun u28 hu28 => ?_)
      refine zj_blk (bs' := [u28]) rfl ?_
      refine zj_istore (pc := 65) C dL_areLanesSo_65 (Nat.le_of_ble_eq_true rfl) ?_
      refine zj_iconst (pc := 67) (v := 1) C dL_areLanesSo_67 (by decide) ?_
      refine zj_aload_n (pc := 68) C dL_areLanesSo_68 rfl ?_
      refine zj_iload (pc := 69) C dL_areLanesSo_69 rfl ?_
      refine zj_iconst (pc := 71) (v := 3) C dL_areLanesSo_71 (by decide) ?_
      refine zj_callQ (pc := 72) C kv_L_44 (qx_LO hu28) dL_areLanesSo_72 0 rfl rfl rfl rfl rfl rfl rfl (OBX_rec hu28) rfl (fun u29 hu29 => ?_)
      refine zj_blk (bs' := [u29]) rfl ?_
      refine zj_top (x' := nI (lnC g (k) 3)) (v_LO hv (k := k) (c := 3) (by omega) (by decide)) ?_
      refine zj_ishl (pc := 75) C dL_areLanesSo_75 ?_
      refine zj_istore (pc := 76) C dL_areLanesSo_76 (Nat.le_of_ble_eq_true rfl) ?_
      refine zj_aload_n (pc := 78) C dL_areLanesSo_78 rfl ?_
      refine zj_iload (pc := 79) C dL_areLanesSo_79 rfl ?_
      refine zj_bipush (pc := 81) (v := 6) C dL_areLanesSo_81 (by decide) ?_
      refine zj_callQ (pc := 83) C kv_L_44 (qx_LO hu29) dL_areLanesSo_83 0 rfl rfl rfl rfl rfl rfl rfl (OBX_rec hu29) rfl (fun u30 hu30 => ?_)
      refine zj_blk (bs' := [u30]) rfl ?_
      refine zj_top (x' := (1 : Int32)) ((v_LO6 hv (k := k) (by omega)).trans (by rw [ht]; rfl)) ?_
      refine zj_iconst (pc := 86) (v := 1) C dL_areLanesSo_86 (by decide) ?_
      refine zj_icmp_ne (pc := 87) 94 C dL_areLanesSo_87 (by decide) (fun cq_ => absurd (by decide) cq_) (fun _ => ?_)
      refine zj_iconst (pc := 90) (v := 1) C dL_areLanesSo_90 (by decide) ?_
      refine zj_goto (pc := 91) (tgt := 95) C dL_areLanesSo_91 (by decide) ?_
      refine zj_istore (pc := 95) C dL_areLanesSo_95 (Nat.le_of_ble_eq_true rfl) ?_
      refine zj_iload_n (pc := 97) C dL_areLanesSo_97 rfl ?_
      refine zj_iload (pc := 98) C dL_areLanesSo_98 rfl ?_
      refine zj_if_eq (pc := 100) 107 C dL_areLanesSo_100 (by decide) (fun cq_ => absurd cq_ (by decide)) (fun _ => ?_)
      refine zj_iconst (pc := 103) (v := 1) C dL_areLanesSo_103 (by decide) ?_
      refine zj_goto (pc := 104) (tgt := 108) C dL_areLanesSo_104 (by decide) ?_
      refine zj_iadd (pc := 108) C dL_areLanesSo_108 ?_
      refine zj_top (x' := nI (cntB (told g) (k + 1))) (by rw [cntB_t ht]; exact nI_1 _) ?_
      refine zj_istore_n (pc := 109) C dL_areLanesSo_109 (Nat.le_of_ble_eq_true rfl) ?_
      refine zj_iload_n (pc := 110) C dL_areLanesSo_110 rfl ?_
      refine zj_iload (pc := 111) C dL_areLanesSo_111 rfl ?_
      refine zj_if_lt (pc := 113) 120 C dL_areLanesSo_113 (by decide) (fun cq_ => absurd cq_ (mt (nI_ltI (a := ck g k) (b := 0) (by omega) (by omega)).mp (by omega))) (fun _ => ?_)
      refine zj_iconst (pc := 116) (v := 1) C dL_areLanesSo_116 (by decide) ?_
      refine zj_goto (pc := 117) (tgt := 121) C dL_areLanesSo_117 (by decide) ?_
      refine zj_iadd (pc := 121) C dL_areLanesSo_121 ?_
      refine zj_top (x' := nI (cntB (hasCk g) (k + 1))) (by rw [cntB_t hh]; exact nI_1 _) ?_
      refine zj_istore_n (pc := 122) C dL_areLanesSo_122 (Nat.le_of_ble_eq_true rfl) ?_
      refine zj_iload (pc := 123) C dL_areLanesSo_123 rfl ?_
      refine zj_if_eq (pc := 125) 342 C dL_areLanesSo_125 (by decide) (fun cq_ => absurd cq_ (by decide)) (fun _ => ?_)
      refine zj_iload (pc := 128) C dL_areLanesSo_128 rfl ?_
      refine zj_iload (pc := 130) C dL_areLanesSo_130 rfl ?_
      refine zj_icmp_eq (pc := 132) 342 C dL_areLanesSo_132 (by decide) (fun cq_ => absurd cq_ (mt (nI_eq (a := lnC g (k) 0) (b := lnC g (k) 1) (by omega) (by omega)).mp (by omega))) (fun _ => ?_)
      refine zj_iload (pc := 135) C dL_areLanesSo_135 rfl ?_
      refine zj_iload (pc := 137) C dL_areLanesSo_137 rfl ?_
      refine zj_icmp_eq (pc := 139) 156 C dL_areLanesSo_139 (by decide) (fun _ => ?_) (fun cq_ => absurd ((nI_eq (a := ck g k) (b := lnC g (k) 0) (by omega) (by omega)).mpr (by omega)) cq_)
      refine zj_aload_n (pc := 156) C dL_areLanesSo_156 rfl ?_
      refine zj_iload (pc := 157) C dL_areLanesSo_157 rfl ?_
      refine zj_iconst (pc := 159) (v := 0) C dL_areLanesSo_159 (by decide) ?_
      refine zj_callQ (pc := 160) C kv_L_41 (qx_CO (r := nI (g (lnC g (k) 0))) hu30 (fun W hW => v_CO0 (x := lnC g (k) 0) (by omega))) dL_areLanesSo_160 0 rfl rfl rfl rfl rfl rfl rfl (OBX_rec hu30) rfl (fun u31 hu31 => ?_)
      refine zj_blk (bs' := [u31]) rfl ?_
      refine zj_iload (pc := 163) C dL_areLanesSo_163 rfl ?_
      refine zj_icmp_gt (pc := 165) 342 C dL_areLanesSo_165 (by decide) (fun cq_ => absurd cq_ (mt (nI_ltI (a := g (ck g k)) (b := g (lnC g (k) 0)) (by omega) (by omega)).mp (by omega))) (fun _ => ?_)
      refine zj_aload_n (pc := 168) C dL_areLanesSo_168 rfl ?_
      refine zj_iload (pc := 169) C dL_areLanesSo_169 rfl ?_
      refine zj_iconst (pc := 171) (v := 0) C dL_areLanesSo_171 (by decide) ?_
      refine zj_callQ (pc := 172) C kv_L_41 (qx_CO (r := nI (g (lnC g (k) 1))) hu31 (fun W hW => v_CO0 (x := lnC g (k) 1) (by omega))) dL_areLanesSo_172 0 rfl rfl rfl rfl rfl rfl rfl (OBX_rec hu31) rfl (fun u32 hu32 => ?_)
      refine zj_blk (bs' := [u32]) rfl ?_
      refine zj_iload (pc := 175) C dL_areLanesSo_175 rfl ?_
      refine zj_icmp_gt (pc := 177) 342 C dL_areLanesSo_177 (by decide) (fun cq_ => absurd cq_ (mt (nI_ltI (a := g (ck g k)) (b := g (lnC g (k) 1)) (by omega) (by omega)).mp (by omega))) (fun _ => ?_)
      refine zj_iload (pc := 180) C dL_areLanesSo_180 rfl ?_
      refine zj_if_lt (pc := 182) 189 C dL_areLanesSo_182 (by decide) (fun cq_ => absurd cq_ (mt (nI_ltI (a := ck g k) (b := 0) (by omega) (by omega)).mp (by omega))) (fun _ => ?_)
      refine zj_iconst (pc := 185) (v := 1) C dL_areLanesSo_185 (by decide) ?_
      refine zj_goto (pc := 186) (tgt := 190) C dL_areLanesSo_186 (by decide) ?_
      refine zj_iload (pc := 190) C dL_areLanesSo_190 rfl ?_
      refine zj_if_le (pc := 192) 199 C dL_areLanesSo_192 (by decide) (fun cq_ => absurd cq_ (mt (nI_leI (a := g (ck g k)) (b := 0) (by omega) (by omega)).mp (by omega))) (fun _ => ?_)
      refine zj_iconst (pc := 195) (v := 1) C dL_areLanesSo_195 (by decide) ?_
      refine zj_goto (pc := 196) (tgt := 200) C dL_areLanesSo_196 (by decide) ?_
      refine zj_icmp_ne (pc := 200) 342 C dL_areLanesSo_200 (by decide) (fun cq_ => absurd (by decide) cq_) (fun _ => ?_)
      refine zj_iload (pc := 203) C dL_areLanesSo_203 rfl ?_
      refine zj_if_lt (pc := 205) 239 C dL_areLanesSo_205 (by decide) (fun cq_ => absurd cq_ (mt (nI_ltI (a := ck g k) (b := 0) (by omega) (by omega)).mp (by omega))) (fun _ => ?_)
      refine zj_aload_n (pc := 208) C dL_areLanesSo_208 rfl ?_
      refine zj_iload (pc := 209) C dL_areLanesSo_209 rfl ?_
      refine zj_iconst (pc := 211) (v := 0) C dL_areLanesSo_211 (by decide) ?_
      refine zj_callQ (pc := 212) C kv_L_41 (qx_CO (r := nI (g (lnC g (k) 0))) hu32 (fun W hW => v_CO0 (x := lnC g (k) 0) (by omega))) dL_areLanesSo_212 0 rfl rfl rfl rfl rfl rfl rfl (OBX_rec hu32) rfl (fun u33 hu33 => ?_)
      refine zj_blk (bs' := [u33]) rfl ?_
      refine zj_aload_n (pc := 215) C dL_areLanesSo_215 rfl ?_
      refine zj_iload (pc := 216) C dL_areLanesSo_216 rfl ?_
      refine zj_iconst (pc := 218) (v := 0) C dL_areLanesSo_218 (by decide) ?_
      refine zj_callQ (pc := 219) C kv_L_41 (qx_CO (r := nI (g (lnC g (k) 1))) hu33 (fun W hW => v_CO0 (x := lnC g (k) 1) (by omega))) dL_areLanesSo_219 0 rfl rfl rfl rfl rfl rfl rfl (OBX_rec hu33) rfl (fun u34 hu34 => ?_)
      refine zj_blk (bs' := [u34]) rfl ?_
      refine zj_icmp_ne (pc := 222) 239 C dL_areLanesSo_222 (by decide) (fun c_222 => ?_) (fun c_222 => ?_)
      · refine zj_iload (pc := 239) C dL_areLanesSo_239 rfl ?_
        refine zj_aload_n (pc := 241) C dL_areLanesSo_241 rfl ?_
        refine zj_iload (pc := 242) C dL_areLanesSo_242 rfl ?_
        refine zj_iconst (pc := 244) (v := 4) C dL_areLanesSo_244 (by decide) ?_
        refine zj_callQ (pc := 245) C kv_L_44 (qx_LO hu34) dL_areLanesSo_245 0 rfl rfl rfl rfl rfl rfl rfl (OBX_rec hu34) rfl (fun u35 hu35 => ?_)
        refine zj_blk (bs' := [u35]) rfl ?_
        refine zj_top (x' := nI (lnC g (k) 4)) (v_LO hv (k := k) (c := 4) (by omega) (by decide)) ?_
        refine zj_if_ne (pc := 248) 260 C dL_areLanesSo_248 (by decide) (fun cq_ => absurd ((nI_eq (a := lnC g (k) 4) (b := 0) (by omega) (by omega)).mpr (by omega)) cq_) (fun _ => ?_)
        refine zj_iload (pc := 251) C dL_areLanesSo_251 rfl ?_
        refine zj_if_lt (pc := 253) 260 C dL_areLanesSo_253 (by decide) (fun cq_ => absurd cq_ (mt (nI_ltI (a := ck g k) (b := 0) (by omega) (by omega)).mp (by omega))) (fun _ => ?_)
        refine zj_iconst (pc := 256) (v := 1) C dL_areLanesSo_256 (by decide) ?_
        refine zj_goto (pc := 257) (tgt := 261) C dL_areLanesSo_257 (by decide) ?_
        refine zj_icmp_ne (pc := 261) 342 C dL_areLanesSo_261 (by decide) (fun cq_ => absurd (by decide) cq_) (fun _ => ?_)
        refine zj_iload (pc := 264) C dL_areLanesSo_264 rfl ?_
        refine zj_if_eq (pc := 266) 338 C dL_areLanesSo_266 (by decide) (fun cq_ => absurd cq_ (by decide)) (fun _ => ?_)
        obtain ⟨t1, t2, t3, t4⟩ := told_c hv hkl ht
        refine zj_aload_n (pc := 269) C dL_areLanesSo_269 rfl ?_
        refine zj_iload (pc := 270) C dL_areLanesSo_270 rfl ?_
        refine zj_iconst (pc := 272) (v := 1) C dL_areLanesSo_272 (by decide) ?_
        refine zj_callQ (pc := 273) C kv_L_41 (qx_CO (r := nI (dsV (dst g) (lnC g (k) 0))) hu35 (fun W hW => v_CO1 hW (x := lnC g (k) 0) (by omega))) dL_areLanesSo_273 0 rfl rfl rfl rfl rfl rfl rfl (OBX_rec hu35) rfl (fun u36 hu36 => ?_)
        refine zj_blk (bs' := [u36]) rfl ?_
        refine zj_iload (pc := 276) C dL_areLanesSo_276 rfl ?_
        refine zj_iand (pc := 278) C dL_areLanesSo_278 ?_
        refine zj_if_le (pc := 279) 342 C dL_areLanesSo_279 (by decide) (fun cq_ => absurd cq_ (Int32.not_le.mpr t3)) (fun _ => ?_)
        refine zj_aload_n (pc := 282) C dL_areLanesSo_282 rfl ?_
        refine zj_iload (pc := 283) C dL_areLanesSo_283 rfl ?_
        refine zj_iconst (pc := 285) (v := 1) C dL_areLanesSo_285 (by decide) ?_
        refine zj_callQ (pc := 286) C kv_L_41 (qx_CO (r := nI (dsV (dst g) (lnC g (k) 1))) hu36 (fun W hW => v_CO1 hW (x := lnC g (k) 1) (by omega))) dL_areLanesSo_286 0 rfl rfl rfl rfl rfl rfl rfl (OBX_rec hu36) rfl (fun u37 hu37 => ?_)
        refine zj_blk (bs' := [u37]) rfl ?_
        refine zj_iload (pc := 289) C dL_areLanesSo_289 rfl ?_
        refine zj_iand (pc := 291) C dL_areLanesSo_291 ?_
        refine zj_if_le (pc := 292) 342 C dL_areLanesSo_292 (by decide) (fun cq_ => absurd cq_ (Int32.not_le.mpr t4)) (fun _ => ?_)
        refine zj_aload_n (pc := 295) C dL_areLanesSo_295 rfl ?_
        refine zj_aload_n (pc := 296) C dL_areLanesSo_296 rfl ?_
        refine zj_iload (pc := 297) C dL_areLanesSo_297 rfl ?_
        refine zj_iconst (pc := 299) (v := 3) C dL_areLanesSo_299 (by decide) ?_
        refine zj_callQ (pc := 300) C kv_L_44 (qx_LO hu37) dL_areLanesSo_300 0 rfl rfl rfl rfl rfl rfl rfl (OBX_rec hu37) rfl (fun u38 hu38 => ?_)
        refine zj_blk (bs' := [u38]) rfl ?_
        refine zj_top (x' := nI (lnC g (k) 3)) (v_LO hv (k := k) (c := 3) (by omega) (by decide)) ?_
        refine zj_iload (pc := 303) C dL_areLanesSo_303 rfl ?_
        refine zj_iload (pc := 305) C dL_areLanesSo_305 rfl ?_
        refine zj_callQ (pc := 307) C kv_L_50 (qx_WI (r := nI (dst g (lnC g (k) 3) (lnC g (k) 0) (lnC g (k) 1))) hu38 (fun W hW => ((v_WI hW (by omega) (by omega) (by omega)).trans (if_pos (by omega))))) dL_areLanesSo_307 0 rfl rfl rfl rfl rfl rfl rfl (OBX_rec hu38) rfl (fun u39 hu39 => ?_)
        refine zj_blk (bs' := [u39]) rfl ?_
        refine zj_aload_n (pc := 310) C dL_areLanesSo_310 rfl ?_
        refine zj_iload (pc := 311) C dL_areLanesSo_311 rfl ?_
        refine zj_iconst (pc := 313) (v := 2) C dL_areLanesSo_313 (by decide) ?_
        refine zj_callQ (pc := 314) C kv_L_44 (qx_LO hu39) dL_areLanesSo_314 0 rfl rfl rfl rfl rfl rfl rfl (OBX_rec hu39) rfl (fun u40 hu40 => ?_)
        refine zj_blk (bs' := [u40]) rfl ?_
        refine zj_top (x' := nI (lnC g (k) 2)) (v_LO hv (k := k) (c := 2) (by omega) (by decide)) ?_
        refine zj_icmp_gt (pc := 317) 342 C dL_areLanesSo_317 (by decide) (fun cq_ => absurd cq_ (mt (nI_ltI (a := lnC g (k) 2) (b := dst g (lnC g (k) 3) (lnC g (k) 0) (lnC g (k) 1)) (by omega) (by omega)).mp (by omega))) (fun _ => ?_)
        refine zj_aload_n (pc := 320) C dL_areLanesSo_320 rfl ?_
        refine zj_aload_n (pc := 321) C dL_areLanesSo_321 rfl ?_
        refine zj_iload (pc := 322) C dL_areLanesSo_322 rfl ?_
        refine zj_iconst (pc := 324) (v := 3) C dL_areLanesSo_324 (by decide) ?_
        refine zj_callQ (pc := 325) C kv_L_44 (qx_LO hu40) dL_areLanesSo_325 0 rfl rfl rfl rfl rfl rfl rfl (OBX_rec hu40) rfl (fun u41 hu41 => ?_)
        refine zj_blk (bs' := [u41]) rfl ?_
        refine zj_top (x' := nI (lnC g (k) 3)) (v_LO hv (k := k) (c := 3) (by omega) (by decide)) ?_
        refine zj_iload (pc := 328) C dL_areLanesSo_328 rfl ?_
        refine zj_iload (pc := 330) C dL_areLanesSo_330 rfl ?_
        refine zj_callQ (pc := 332) C kv_L_50 (qx_WI (r := nI (dst g (lnC g (k) 3) (lnC g (k) 0) (lnC g (k) 1))) hu41 (fun W hW => ((v_WI hW (by omega) (by omega) (by omega)).trans (if_pos (by omega))))) dL_areLanesSo_332 0 rfl rfl rfl rfl rfl rfl rfl (OBX_rec hu41) rfl (fun u42 hu42 => ?_)
        refine zj_blk (bs' := [u42]) rfl ?_
        refine zj_if_le (pc := 335) 342 C dL_areLanesSo_335 (by decide) (fun cq_ => absurd cq_ (mt (nI_leI (a := dst g (lnC g (k) 3) (lnC g (k) 0) (lnC g (k) 1)) (b := 0) (by omega) (by omega)).mp (by omega))) (fun _ => ?_)
        refine zj_iconst (pc := 338) (v := 1) C dL_areLanesSo_338 (by decide) ?_
        refine zj_goto (pc := 339) (tgt := 343) C dL_areLanesSo_339 (by decide) ?_
        refine zj_istore (pc := 343) C dL_areLanesSo_343 (Nat.le_of_ble_eq_true rfl) ?_
        refine zj_iinc (pc := 345) (v := nI (k + 1)) C dL_areLanesSo_345 rfl (nI_1 _) ?_
        refine zj_goto (pc := 348) (tgt := 12) C dL_areLanesSo_348 (by decide) ?_
        refine zj_keep [true, true, true, true, true, true, false, false, false, false, false, false] ?_
        exact ih (k + 1, u42) ⟨by show k + 1 ≤ kL g; omega, hu42⟩ (by show kL g - (k + 1) < kL g - k; omega)
      · have hge2 := hge ((nI_eq (a := g (lnC g k 0)) (b := g (lnC g k 1)) (by omega) (by omega)).mp c_222)
        refine zj_iload (pc := 225) C dL_areLanesSo_225 rfl ?_
        refine zj_iload (pc := 227) C dL_areLanesSo_227 rfl ?_
        refine zj_icmp_lt (pc := 229) 342 C dL_areLanesSo_229 (by decide) (fun cq_ => absurd cq_ (mt (nI_ltI (a := ck g k) (b := lnC g (k) 0) (by omega) (by omega)).mp (by omega))) (fun _ => ?_)
        refine zj_iload (pc := 232) C dL_areLanesSo_232 rfl ?_
        refine zj_iload (pc := 234) C dL_areLanesSo_234 rfl ?_
        refine zj_icmp_lt (pc := 236) 342 C dL_areLanesSo_236 (by decide) (fun cq_ => absurd cq_ (mt (nI_ltI (a := ck g k) (b := lnC g (k) 1) (by omega) (by omega)).mp (by omega))) (fun _ => ?_)
        refine zj_iload (pc := 239) C dL_areLanesSo_239 rfl ?_
        refine zj_aload_n (pc := 241) C dL_areLanesSo_241 rfl ?_
        refine zj_iload (pc := 242) C dL_areLanesSo_242 rfl ?_
        refine zj_iconst (pc := 244) (v := 4) C dL_areLanesSo_244 (by decide) ?_
        refine zj_callQ (pc := 245) C kv_L_44 (qx_LO hu34) dL_areLanesSo_245 0 rfl rfl rfl rfl rfl rfl rfl (OBX_rec hu34) rfl (fun u43 hu43 => ?_)
        refine zj_blk (bs' := [u43]) rfl ?_
        refine zj_top (x' := nI (lnC g (k) 4)) (v_LO hv (k := k) (c := 4) (by omega) (by decide)) ?_
        refine zj_if_ne (pc := 248) 260 C dL_areLanesSo_248 (by decide) (fun cq_ => absurd ((nI_eq (a := lnC g (k) 4) (b := 0) (by omega) (by omega)).mpr (by omega)) cq_) (fun _ => ?_)
        refine zj_iload (pc := 251) C dL_areLanesSo_251 rfl ?_
        refine zj_if_lt (pc := 253) 260 C dL_areLanesSo_253 (by decide) (fun cq_ => absurd cq_ (mt (nI_ltI (a := ck g k) (b := 0) (by omega) (by omega)).mp (by omega))) (fun _ => ?_)
        refine zj_iconst (pc := 256) (v := 1) C dL_areLanesSo_256 (by decide) ?_
        refine zj_goto (pc := 257) (tgt := 261) C dL_areLanesSo_257 (by decide) ?_
        refine zj_icmp_ne (pc := 261) 342 C dL_areLanesSo_261 (by decide) (fun cq_ => absurd (by decide) cq_) (fun _ => ?_)
        refine zj_iload (pc := 264) C dL_areLanesSo_264 rfl ?_
        refine zj_if_eq (pc := 266) 338 C dL_areLanesSo_266 (by decide) (fun cq_ => absurd cq_ (by decide)) (fun _ => ?_)
        obtain ⟨t1, t2, t3, t4⟩ := told_c hv hkl ht
        refine zj_aload_n (pc := 269) C dL_areLanesSo_269 rfl ?_
        refine zj_iload (pc := 270) C dL_areLanesSo_270 rfl ?_
        refine zj_iconst (pc := 272) (v := 1) C dL_areLanesSo_272 (by decide) ?_
        refine zj_callQ (pc := 273) C kv_L_41 (qx_CO (r := nI (dsV (dst g) (lnC g (k) 0))) hu43 (fun W hW => v_CO1 hW (x := lnC g (k) 0) (by omega))) dL_areLanesSo_273 0 rfl rfl rfl rfl rfl rfl rfl (OBX_rec hu43) rfl (fun u44 hu44 => ?_)
        refine zj_blk (bs' := [u44]) rfl ?_
        refine zj_iload (pc := 276) C dL_areLanesSo_276 rfl ?_
        refine zj_iand (pc := 278) C dL_areLanesSo_278 ?_
        refine zj_if_le (pc := 279) 342 C dL_areLanesSo_279 (by decide) (fun cq_ => absurd cq_ (Int32.not_le.mpr t3)) (fun _ => ?_)
        refine zj_aload_n (pc := 282) C dL_areLanesSo_282 rfl ?_
        refine zj_iload (pc := 283) C dL_areLanesSo_283 rfl ?_
        refine zj_iconst (pc := 285) (v := 1) C dL_areLanesSo_285 (by decide) ?_
        refine zj_callQ (pc := 286) C kv_L_41 (qx_CO (r := nI (dsV (dst g) (lnC g (k) 1))) hu44 (fun W hW => v_CO1 hW (x := lnC g (k) 1) (by omega))) dL_areLanesSo_286 0 rfl rfl rfl rfl rfl rfl rfl (OBX_rec hu44) rfl (fun u45 hu45 => ?_)
        refine zj_blk (bs' := [u45]) rfl ?_
        refine zj_iload (pc := 289) C dL_areLanesSo_289 rfl ?_
        refine zj_iand (pc := 291) C dL_areLanesSo_291 ?_
        refine zj_if_le (pc := 292) 342 C dL_areLanesSo_292 (by decide) (fun cq_ => absurd cq_ (Int32.not_le.mpr t4)) (fun _ => ?_)
        refine zj_aload_n (pc := 295) C dL_areLanesSo_295 rfl ?_
        refine zj_aload_n (pc := 296) C dL_areLanesSo_296 rfl ?_
        refine zj_iload (pc := 297) C dL_areLanesSo_297 rfl ?_
        refine zj_iconst (pc := 299) (v := 3) C dL_areLanesSo_299 (by decide) ?_
        refine zj_callQ (pc := 300) C kv_L_44 (qx_LO hu45) dL_areLanesSo_300 0 rfl rfl rfl rfl rfl rfl rfl (OBX_rec hu45) rfl (fun u46 hu46 => ?_)
        refine zj_blk (bs' := [u46]) rfl ?_
        refine zj_top (x' := nI (lnC g (k) 3)) (v_LO hv (k := k) (c := 3) (by omega) (by decide)) ?_
        refine zj_iload (pc := 303) C dL_areLanesSo_303 rfl ?_
        refine zj_iload (pc := 305) C dL_areLanesSo_305 rfl ?_
        refine zj_callQ (pc := 307) C kv_L_50 (qx_WI (r := nI (dst g (lnC g (k) 3) (lnC g (k) 0) (lnC g (k) 1))) hu46 (fun W hW => ((v_WI hW (by omega) (by omega) (by omega)).trans (if_pos (by omega))))) dL_areLanesSo_307 0 rfl rfl rfl rfl rfl rfl rfl (OBX_rec hu46) rfl (fun u47 hu47 => ?_)
        refine zj_blk (bs' := [u47]) rfl ?_
        refine zj_aload_n (pc := 310) C dL_areLanesSo_310 rfl ?_
        refine zj_iload (pc := 311) C dL_areLanesSo_311 rfl ?_
        refine zj_iconst (pc := 313) (v := 2) C dL_areLanesSo_313 (by decide) ?_
        refine zj_callQ (pc := 314) C kv_L_44 (qx_LO hu47) dL_areLanesSo_314 0 rfl rfl rfl rfl rfl rfl rfl (OBX_rec hu47) rfl (fun u48 hu48 => ?_)
        refine zj_blk (bs' := [u48]) rfl ?_
        refine zj_top (x' := nI (lnC g (k) 2)) (v_LO hv (k := k) (c := 2) (by omega) (by decide)) ?_
        refine zj_icmp_gt (pc := 317) 342 C dL_areLanesSo_317 (by decide) (fun cq_ => absurd cq_ (mt (nI_ltI (a := lnC g (k) 2) (b := dst g (lnC g (k) 3) (lnC g (k) 0) (lnC g (k) 1)) (by omega) (by omega)).mp (by omega))) (fun _ => ?_)
        refine zj_aload_n (pc := 320) C dL_areLanesSo_320 rfl ?_
        refine zj_aload_n (pc := 321) C dL_areLanesSo_321 rfl ?_
        refine zj_iload (pc := 322) C dL_areLanesSo_322 rfl ?_
        refine zj_iconst (pc := 324) (v := 3) C dL_areLanesSo_324 (by decide) ?_
        refine zj_callQ (pc := 325) C kv_L_44 (qx_LO hu48) dL_areLanesSo_325 0 rfl rfl rfl rfl rfl rfl rfl (OBX_rec hu48) rfl (fun u49 hu49 => ?_)
        refine zj_blk (bs' := [u49]) rfl ?_
        refine zj_top (x' := nI (lnC g (k) 3)) (v_LO hv (k := k) (c := 3) (by omega) (by decide)) ?_
        refine zj_iload (pc := 328) C dL_areLanesSo_328 rfl ?_
        refine zj_iload (pc := 330) C dL_areLanesSo_330 rfl ?_
        refine zj_callQ (pc := 332) C kv_L_50 (qx_WI (r := nI (dst g (lnC g (k) 3) (lnC g (k) 0) (lnC g (k) 1))) hu49 (fun W hW => ((v_WI hW (by omega) (by omega) (by omega)).trans (if_pos (by omega))))) dL_areLanesSo_332 0 rfl rfl rfl rfl rfl rfl rfl (OBX_rec hu49) rfl (fun u50 hu50 => ?_)
        refine zj_blk (bs' := [u50]) rfl ?_
        refine zj_if_le (pc := 335) 342 C dL_areLanesSo_335 (by decide) (fun cq_ => absurd cq_ (mt (nI_leI (a := dst g (lnC g (k) 3) (lnC g (k) 0) (lnC g (k) 1)) (b := 0) (by omega) (by omega)).mp (by omega))) (fun _ => ?_)
        refine zj_iconst (pc := 338) (v := 1) C dL_areLanesSo_338 (by decide) ?_
        refine zj_goto (pc := 339) (tgt := 343) C dL_areLanesSo_339 (by decide) ?_
        refine zj_istore (pc := 343) C dL_areLanesSo_343 (Nat.le_of_ble_eq_true rfl) ?_
        refine zj_iinc (pc := 345) (v := nI (k + 1)) C dL_areLanesSo_345 rfl (nI_1 _) ?_
        refine zj_goto (pc := 348) (tgt := 12) C dL_areLanesSo_348 (by decide) ?_
        refine zj_keep [true, true, true, true, true, true, false, false, false, false, false, false] ?_
        exact ih (k + 1, u50) ⟨by show k + 1 ≤ kL g; omega, hu50⟩ (by show kL g - (k + 1) < kL g - k; omega)
    · have rkc := hv.2.2.1 _ c14
      refine zj_aload_n (pc := 22) C dL_areLanesSo_22 rfl ?_
      refine zj_iload (pc := 23) C dL_areLanesSo_23 rfl ?_
      refine zj_iconst (pc := 25) (v := 0) C dL_areLanesSo_25 (by decide) ?_
      refine zj_callQ (pc := 26) C kv_L_44 (qx_LO hu1) dL_areLanesSo_26 0 rfl rfl rfl rfl rfl rfl rfl (OBX_rec hu1) rfl (fun u51 hu51 => ?_)
      refine zj_blk (bs' := [u51]) rfl ?_
      refine zj_top (x' := nI (lnC g (k) 0)) (v_LO hv (k := k) (c := 0) (by omega) (by decide)) ?_
      refine zj_istore (pc := 29) C dL_areLanesSo_29 (Nat.le_of_ble_eq_true rfl) ?_
      refine zj_aload_n (pc := 31) C dL_areLanesSo_31 rfl ?_
      refine zj_iload (pc := 32) C dL_areLanesSo_32 rfl ?_
      refine zj_iconst (pc := 34) (v := 1) C dL_areLanesSo_34 (by decide) ?_
      refine zj_callQ (pc := 35) C kv_L_44 (qx_LO hu51) dL_areLanesSo_35 0 rfl rfl rfl rfl rfl rfl rfl (OBX_rec hu51) rfl (fun u52 hu52 => ?_)
      refine zj_blk (bs' := [u52]) rfl ?_
      refine zj_top (x' := nI (lnC g (k) 1)) (v_LO hv (k := k) (c := 1) (by omega) (by decide)) ?_
      refine zj_istore (pc := 38) C dL_areLanesSo_38 (Nat.le_of_ble_eq_true rfl) ?_
      refine zj_aload_n (pc := 40) C dL_areLanesSo_40 rfl ?_
      refine zj_iload (pc := 41) C dL_areLanesSo_41 rfl ?_
      refine zj_iconst (pc := 43) (v := 5) C dL_areLanesSo_43 (by decide) ?_
      refine zj_callQ (pc := 44) C kv_L_44 (qx_LO hu52) dL_areLanesSo_44 0 rfl rfl rfl rfl rfl rfl rfl (OBX_rec hu52) rfl (fun u53 hu53 => ?_)
      refine zj_blk (bs' := [u53]) rfl ?_
      refine zj_top (x' := nI (ck g k)) ((v_LO5 hv (k := k) (by omega)).trans hck) ?_
      refine zj_istore (pc := 47) C dL_areLanesSo_47 (Nat.le_of_ble_eq_true rfl) ?_
      refine zj_iload (pc := 49) C dL_areLanesSo_49 rfl ?_
      refine zj_if_ge (pc := 51) 58 C dL_areLanesSo_51 (by decide) (fun _ => ?_) (fun cq_ => absurd ((nI_leI (a := 0) (b := ck g k) (by omega) (by omega)).mpr (by omega)) cq_)
      refine zj_aload_n (pc := 58) C dL_areLanesSo_58 rfl ?_
      refine zj_iload (pc := 59) C dL_areLanesSo_59 rfl ?_
      refine zj_iconst (pc := 61) (v := 0) C dL_areLanesSo_61 (by decide) ?_
      refine zj_callQ (pc := 62) C kv_L_41 (qx_CO (r := nI (g (ck g k))) hu53 (fun W hW => v_CO0 (x := ck g k) (by omega))) dL_areLanesSo_62 0 rfl rfl rfl rfl rfl rfl rfl (OBX_rec hu53) rfl (fun u54 hu54 => ?_)
      refine zj_blk (bs' := [u54]) rfl ?_
      refine zj_istore (pc := 65) C dL_areLanesSo_65 (Nat.le_of_ble_eq_true rfl) ?_
      refine zj_iconst (pc := 67) (v := 1) C dL_areLanesSo_67 (by decide) ?_
      refine zj_aload_n (pc := 68) C dL_areLanesSo_68 rfl ?_
      refine zj_iload (pc := 69) C dL_areLanesSo_69 rfl ?_
      refine zj_iconst (pc := 71) (v := 3) C dL_areLanesSo_71 (by decide) ?_
      refine zj_callQ (pc := 72) C kv_L_44 (qx_LO hu54) dL_areLanesSo_72 0 rfl rfl rfl rfl rfl rfl rfl (OBX_rec hu54) rfl (fun u55 hu55 => ?_)
      refine zj_blk (bs' := [u55]) rfl ?_
      refine zj_top (x' := nI (lnC g (k) 3)) (v_LO hv (k := k) (c := 3) (by omega) (by decide)) ?_
      refine zj_ishl (pc := 75) C dL_areLanesSo_75 ?_
      refine zj_istore (pc := 76) C dL_areLanesSo_76 (Nat.le_of_ble_eq_true rfl) ?_
      refine zj_aload_n (pc := 78) C dL_areLanesSo_78 rfl ?_
      refine zj_iload (pc := 79) C dL_areLanesSo_79 rfl ?_
      refine zj_bipush (pc := 81) (v := 6) C dL_areLanesSo_81 (by decide) ?_
      refine zj_callQ (pc := 83) C kv_L_44 (qx_LO hu55) dL_areLanesSo_83 0 rfl rfl rfl rfl rfl rfl rfl (OBX_rec hu55) rfl (fun u56 hu56 => ?_)
      refine zj_blk (bs' := [u56]) rfl ?_
      refine zj_top (x' := (0 : Int32)) ((v_LO6 hv (k := k) (by omega)).trans (by rw [ht]; rfl)) ?_
      refine zj_iconst (pc := 86) (v := 1) C dL_areLanesSo_86 (by decide) ?_
      refine zj_icmp_ne (pc := 87) 94 C dL_areLanesSo_87 (by decide) (fun _ => ?_) (fun cq_ => absurd cq_ (by decide))
      refine zj_iconst (pc := 94) (v := 0) C dL_areLanesSo_94 (by decide) ?_
      refine zj_istore (pc := 95) C dL_areLanesSo_95 (Nat.le_of_ble_eq_true rfl) ?_
      refine zj_iload_n (pc := 97) C dL_areLanesSo_97 rfl ?_
      refine zj_iload (pc := 98) C dL_areLanesSo_98 rfl ?_
      refine zj_if_eq (pc := 100) 107 C dL_areLanesSo_100 (by decide) (fun _ => ?_) (fun cq_ => absurd (by decide) cq_)
      refine zj_iconst (pc := 107) (v := 0) C dL_areLanesSo_107 (by decide) ?_
      refine zj_iadd (pc := 108) C dL_areLanesSo_108 ?_
      refine zj_top (x' := nI (cntB (told g) (k + 1))) (by rw [cntB_f ht]; exact Int32.add_zero _) ?_
      refine zj_istore_n (pc := 109) C dL_areLanesSo_109 (Nat.le_of_ble_eq_true rfl) ?_
      refine zj_iload_n (pc := 110) C dL_areLanesSo_110 rfl ?_
      refine zj_iload (pc := 111) C dL_areLanesSo_111 rfl ?_
      refine zj_if_lt (pc := 113) 120 C dL_areLanesSo_113 (by decide) (fun cq_ => absurd cq_ (mt (nI_ltI (a := ck g k) (b := 0) (by omega) (by omega)).mp (by omega))) (fun _ => ?_)
      refine zj_iconst (pc := 116) (v := 1) C dL_areLanesSo_116 (by decide) ?_
      refine zj_goto (pc := 117) (tgt := 121) C dL_areLanesSo_117 (by decide) ?_
      refine zj_iadd (pc := 121) C dL_areLanesSo_121 ?_
      refine zj_top (x' := nI (cntB (hasCk g) (k + 1))) (by rw [cntB_t hh]; exact nI_1 _) ?_
      refine zj_istore_n (pc := 122) C dL_areLanesSo_122 (Nat.le_of_ble_eq_true rfl) ?_
      refine zj_iload (pc := 123) C dL_areLanesSo_123 rfl ?_
      refine zj_if_eq (pc := 125) 342 C dL_areLanesSo_125 (by decide) (fun cq_ => absurd cq_ (by decide)) (fun _ => ?_)
      refine zj_iload (pc := 128) C dL_areLanesSo_128 rfl ?_
      refine zj_iload (pc := 130) C dL_areLanesSo_130 rfl ?_
      refine zj_icmp_eq (pc := 132) 342 C dL_areLanesSo_132 (by decide) (fun cq_ => absurd cq_ (mt (nI_eq (a := lnC g (k) 0) (b := lnC g (k) 1) (by omega) (by omega)).mp (by omega))) (fun _ => ?_)
      refine zj_iload (pc := 135) C dL_areLanesSo_135 rfl ?_
      refine zj_iload (pc := 137) C dL_areLanesSo_137 rfl ?_
      refine zj_icmp_eq (pc := 139) 156 C dL_areLanesSo_139 (by decide) (fun _ => ?_) (fun cq_ => absurd ((nI_eq (a := ck g k) (b := lnC g (k) 0) (by omega) (by omega)).mpr (by omega)) cq_)
      refine zj_aload_n (pc := 156) C dL_areLanesSo_156 rfl ?_
      refine zj_iload (pc := 157) C dL_areLanesSo_157 rfl ?_
      refine zj_iconst (pc := 159) (v := 0) C dL_areLanesSo_159 (by decide) ?_
      refine zj_callQ (pc := 160) C kv_L_41 (qx_CO (r := nI (g (lnC g (k) 0))) hu56 (fun W hW => v_CO0 (x := lnC g (k) 0) (by omega))) dL_areLanesSo_160 0 rfl rfl rfl rfl rfl rfl rfl (OBX_rec hu56) rfl (fun u57 hu57 => ?_)
      refine zj_blk (bs' := [u57]) rfl ?_
      refine zj_iload (pc := 163) C dL_areLanesSo_163 rfl ?_
      refine zj_icmp_gt (pc := 165) 342 C dL_areLanesSo_165 (by decide) (fun cq_ => absurd cq_ (mt (nI_ltI (a := g (ck g k)) (b := g (lnC g (k) 0)) (by omega) (by omega)).mp (by omega))) (fun _ => ?_)
      refine zj_aload_n (pc := 168) C dL_areLanesSo_168 rfl ?_
      refine zj_iload (pc := 169) C dL_areLanesSo_169 rfl ?_
      refine zj_iconst (pc := 171) (v := 0) C dL_areLanesSo_171 (by decide) ?_
      refine zj_callQ (pc := 172) C kv_L_41 (qx_CO (r := nI (g (lnC g (k) 1))) hu57 (fun W hW => v_CO0 (x := lnC g (k) 1) (by omega))) dL_areLanesSo_172 0 rfl rfl rfl rfl rfl rfl rfl (OBX_rec hu57) rfl (fun u58 hu58 => ?_)
      refine zj_blk (bs' := [u58]) rfl ?_
      refine zj_iload (pc := 175) C dL_areLanesSo_175 rfl ?_
      refine zj_icmp_gt (pc := 177) 342 C dL_areLanesSo_177 (by decide) (fun cq_ => absurd cq_ (mt (nI_ltI (a := g (ck g k)) (b := g (lnC g (k) 1)) (by omega) (by omega)).mp (by omega))) (fun _ => ?_)
      refine zj_iload (pc := 180) C dL_areLanesSo_180 rfl ?_
      refine zj_if_lt (pc := 182) 189 C dL_areLanesSo_182 (by decide) (fun cq_ => absurd cq_ (mt (nI_ltI (a := ck g k) (b := 0) (by omega) (by omega)).mp (by omega))) (fun _ => ?_)
      refine zj_iconst (pc := 185) (v := 1) C dL_areLanesSo_185 (by decide) ?_
      refine zj_goto (pc := 186) (tgt := 190) C dL_areLanesSo_186 (by decide) ?_
      refine zj_iload (pc := 190) C dL_areLanesSo_190 rfl ?_
      refine zj_if_le (pc := 192) 199 C dL_areLanesSo_192 (by decide) (fun cq_ => absurd cq_ (mt (nI_leI (a := g (ck g k)) (b := 0) (by omega) (by omega)).mp (by omega))) (fun _ => ?_)
      refine zj_iconst (pc := 195) (v := 1) C dL_areLanesSo_195 (by decide) ?_
      refine zj_goto (pc := 196) (tgt := 200) C dL_areLanesSo_196 (by decide) ?_
      refine zj_icmp_ne (pc := 200) 342 C dL_areLanesSo_200 (by decide) (fun cq_ => absurd (by decide) cq_) (fun _ => ?_)
      refine zj_iload (pc := 203) C dL_areLanesSo_203 rfl ?_
      refine zj_if_lt (pc := 205) 239 C dL_areLanesSo_205 (by decide) (fun cq_ => absurd cq_ (mt (nI_ltI (a := ck g k) (b := 0) (by omega) (by omega)).mp (by omega))) (fun _ => ?_)
      refine zj_aload_n (pc := 208) C dL_areLanesSo_208 rfl ?_
      refine zj_iload (pc := 209) C dL_areLanesSo_209 rfl ?_
      refine zj_iconst (pc := 211) (v := 0) C dL_areLanesSo_211 (by decide) ?_
      refine zj_callQ (pc := 212) C kv_L_41 (qx_CO (r := nI (g (lnC g (k) 0))) hu58 (fun W hW => v_CO0 (x := lnC g (k) 0) (by omega))) dL_areLanesSo_212 0 rfl rfl rfl rfl rfl rfl rfl (OBX_rec hu58) rfl (fun u59 hu59 => ?_)
      refine zj_blk (bs' := [u59]) rfl ?_
      refine zj_aload_n (pc := 215) C dL_areLanesSo_215 rfl ?_
      refine zj_iload (pc := 216) C dL_areLanesSo_216 rfl ?_
      refine zj_iconst (pc := 218) (v := 0) C dL_areLanesSo_218 (by decide) ?_
      refine zj_callQ (pc := 219) C kv_L_41 (qx_CO (r := nI (g (lnC g (k) 1))) hu59 (fun W hW => v_CO0 (x := lnC g (k) 1) (by omega))) dL_areLanesSo_219 0 rfl rfl rfl rfl rfl rfl rfl (OBX_rec hu59) rfl (fun u60 hu60 => ?_)
      refine zj_blk (bs' := [u60]) rfl ?_
      refine zj_icmp_ne (pc := 222) 239 C dL_areLanesSo_222 (by decide) (fun c_222 => ?_) (fun c_222 => ?_)
      · refine zj_iload (pc := 239) C dL_areLanesSo_239 rfl ?_
        refine zj_aload_n (pc := 241) C dL_areLanesSo_241 rfl ?_
        refine zj_iload (pc := 242) C dL_areLanesSo_242 rfl ?_
        refine zj_iconst (pc := 244) (v := 4) C dL_areLanesSo_244 (by decide) ?_
        refine zj_callQ (pc := 245) C kv_L_44 (qx_LO hu60) dL_areLanesSo_245 0 rfl rfl rfl rfl rfl rfl rfl (OBX_rec hu60) rfl (fun u61 hu61 => ?_)
        refine zj_blk (bs' := [u61]) rfl ?_
        refine zj_top (x' := nI (lnC g (k) 4)) (v_LO hv (k := k) (c := 4) (by omega) (by decide)) ?_
        refine zj_if_ne (pc := 248) 260 C dL_areLanesSo_248 (by decide) (fun _ => ?_) (fun cq_ => absurd cq_ (mt (nI_eq (a := lnC g (k) 4) (b := 0) (by omega) (by omega)).mp (by omega)))
        refine zj_iconst (pc := 260) (v := 0) C dL_areLanesSo_260 (by decide) ?_
        refine zj_icmp_ne (pc := 261) 342 C dL_areLanesSo_261 (by decide) (fun cq_ => absurd (by decide) cq_) (fun _ => ?_)
        refine zj_iload (pc := 264) C dL_areLanesSo_264 rfl ?_
        refine zj_if_eq (pc := 266) 338 C dL_areLanesSo_266 (by decide) (fun _ => ?_) (fun cq_ => absurd (by decide) cq_)
        refine zj_iconst (pc := 338) (v := 1) C dL_areLanesSo_338 (by decide) ?_
        refine zj_goto (pc := 339) (tgt := 343) C dL_areLanesSo_339 (by decide) ?_
        refine zj_istore (pc := 343) C dL_areLanesSo_343 (Nat.le_of_ble_eq_true rfl) ?_
        refine zj_iinc (pc := 345) (v := nI (k + 1)) C dL_areLanesSo_345 rfl (nI_1 _) ?_
        refine zj_goto (pc := 348) (tgt := 12) C dL_areLanesSo_348 (by decide) ?_
        refine zj_keep [true, true, true, true, true, true, false, false, false, false, false, false] ?_
        exact ih (k + 1, u61) ⟨by show k + 1 ≤ kL g; omega, hu61⟩ (by show kL g - (k + 1) < kL g - k; omega)
      · have hge2 := hge ((nI_eq (a := g (lnC g k 0)) (b := g (lnC g k 1)) (by omega) (by omega)).mp c_222)
        refine zj_iload (pc := 225) C dL_areLanesSo_225 rfl ?_
        refine zj_iload (pc := 227) C dL_areLanesSo_227 rfl ?_
        refine zj_icmp_lt (pc := 229) 342 C dL_areLanesSo_229 (by decide) (fun cq_ => absurd cq_ (mt (nI_ltI (a := ck g k) (b := lnC g (k) 0) (by omega) (by omega)).mp (by omega))) (fun _ => ?_)
        refine zj_iload (pc := 232) C dL_areLanesSo_232 rfl ?_
        refine zj_iload (pc := 234) C dL_areLanesSo_234 rfl ?_
        refine zj_icmp_lt (pc := 236) 342 C dL_areLanesSo_236 (by decide) (fun cq_ => absurd cq_ (mt (nI_ltI (a := ck g k) (b := lnC g (k) 1) (by omega) (by omega)).mp (by omega))) (fun _ => ?_)
        refine zj_iload (pc := 239) C dL_areLanesSo_239 rfl ?_
        refine zj_aload_n (pc := 241) C dL_areLanesSo_241 rfl ?_
        refine zj_iload (pc := 242) C dL_areLanesSo_242 rfl ?_
        refine zj_iconst (pc := 244) (v := 4) C dL_areLanesSo_244 (by decide) ?_
        refine zj_callQ (pc := 245) C kv_L_44 (qx_LO hu60) dL_areLanesSo_245 0 rfl rfl rfl rfl rfl rfl rfl (OBX_rec hu60) rfl (fun u62 hu62 => ?_)
        refine zj_blk (bs' := [u62]) rfl ?_
        refine zj_top (x' := nI (lnC g (k) 4)) (v_LO hv (k := k) (c := 4) (by omega) (by decide)) ?_
        refine zj_if_ne (pc := 248) 260 C dL_areLanesSo_248 (by decide) (fun _ => ?_) (fun cq_ => absurd cq_ (mt (nI_eq (a := lnC g (k) 4) (b := 0) (by omega) (by omega)).mp (by omega)))
        refine zj_iconst (pc := 260) (v := 0) C dL_areLanesSo_260 (by decide) ?_
        refine zj_icmp_ne (pc := 261) 342 C dL_areLanesSo_261 (by decide) (fun cq_ => absurd (by decide) cq_) (fun _ => ?_)
        refine zj_iload (pc := 264) C dL_areLanesSo_264 rfl ?_
        refine zj_if_eq (pc := 266) 338 C dL_areLanesSo_266 (by decide) (fun _ => ?_) (fun cq_ => absurd (by decide) cq_)
        refine zj_iconst (pc := 338) (v := 1) C dL_areLanesSo_338 (by decide) ?_
        refine zj_goto (pc := 339) (tgt := 343) C dL_areLanesSo_339 (by decide) ?_
        refine zj_istore (pc := 343) C dL_areLanesSo_343 (Nat.le_of_ble_eq_true rfl) ?_
        refine zj_iinc (pc := 345) (v := nI (k + 1)) C dL_areLanesSo_345 rfl (nI_1 _) ?_
        refine zj_goto (pc := 348) (tgt := 12) C dL_areLanesSo_348 (by decide) ?_
        refine zj_keep [true, true, true, true, true, true, false, false, false, false, false, false] ?_
        exact ih (k + 1, u62) ⟨by show k + 1 ≤ kL g; omega, hu62⟩ (by show kL g - (k + 1) < kL g - k; omega)
    · have rkc := hv.2.2.1 _ c14
      refine zj_aload_n (pc := 22) C dL_areLanesSo_22 rfl ?_
      refine zj_iload (pc := 23) C dL_areLanesSo_23 rfl ?_
      refine zj_iconst (pc := 25) (v := 0) C dL_areLanesSo_25 (by decide) ?_
      refine zj_callQ (pc := 26) C kv_L_44 (qx_LO hu1) dL_areLanesSo_26 0 rfl rfl rfl rfl rfl rfl rfl (OBX_rec hu1) rfl (fun u63 hu63 => ?_)
      refine zj_blk (bs' := [u63]) rfl ?_
      refine zj_top (x' := nI (lnC g (k) 0)) (v_LO hv (k := k) (c := 0) (by omega) (by decide)) ?_
      refine zj_istore (pc := 29) C dL_areLanesSo_29 (Nat.le_of_ble_eq_true rfl) ?_
      refine zj_aload_n (pc := 31) C dL_areLanesSo_31 rfl ?_
      refine zj_iload (pc := 32) C dL_areLanesSo_32 rfl ?_
      refine zj_iconst (pc := 34) (v := 1) C dL_areLanesSo_34 (by decide) ?_
      refine zj_callQ (pc := 35) C kv_L_44 (qx_LO hu63) dL_areLanesSo_35 0 rfl rfl rfl rfl rfl rfl rfl (OBX_rec hu63) rfl (fun u64 hu64 => ?_)
      refine zj_blk (bs' := [u64]) rfl ?_
      refine zj_top (x' := nI (lnC g (k) 1)) (v_LO hv (k := k) (c := 1) (by omega) (by decide)) ?_
      refine zj_istore (pc := 38) C dL_areLanesSo_38 (Nat.le_of_ble_eq_true rfl) ?_
      refine zj_aload_n (pc := 40) C dL_areLanesSo_40 rfl ?_
      refine zj_iload (pc := 41) C dL_areLanesSo_41 rfl ?_
      refine zj_iconst (pc := 43) (v := 5) C dL_areLanesSo_43 (by decide) ?_
      refine zj_callQ (pc := 44) C kv_L_44 (qx_LO hu64) dL_areLanesSo_44 0 rfl rfl rfl rfl rfl rfl rfl (OBX_rec hu64) rfl (fun u65 hu65 => ?_)
      refine zj_blk (bs' := [u65]) rfl ?_
      refine zj_top (x' := nI (ck g k)) ((v_LO5 hv (k := k) (by omega)).trans hck) ?_
      refine zj_istore (pc := 47) C dL_areLanesSo_47 (Nat.le_of_ble_eq_true rfl) ?_
      refine zj_iload (pc := 49) C dL_areLanesSo_49 rfl ?_
      refine zj_if_ge (pc := 51) 58 C dL_areLanesSo_51 (by decide) (fun _ => ?_) (fun cq_ => absurd ((nI_leI (a := 0) (b := ck g k) (by omega) (by omega)).mpr (by omega)) cq_)
      refine zj_aload_n (pc := 58) C dL_areLanesSo_58 rfl ?_
      refine zj_iload (pc := 59) C dL_areLanesSo_59 rfl ?_
      refine zj_iconst (pc := 61) (v := 0) C dL_areLanesSo_61 (by decide) ?_
      refine zj_callQ (pc := 62) C kv_L_41 (qx_CO (r := nI (g (ck g k))) hu65 (fun W hW => v_CO0 (x := ck g k) (by omega))) dL_areLanesSo_62 0 rfl rfl rfl rfl rfl rfl rfl (OBX_rec hu65) rfl (fun u66 hu66 => ?_)
      refine zj_blk (bs' := [u66]) rfl ?_
      refine zj_istore (pc := 65) C dL_areLanesSo_65 (Nat.le_of_ble_eq_true rfl) ?_
      refine zj_iconst (pc := 67) (v := 1) C dL_areLanesSo_67 (by decide) ?_
      refine zj_aload_n (pc := 68) C dL_areLanesSo_68 rfl ?_
      refine zj_iload (pc := 69) C dL_areLanesSo_69 rfl ?_
      refine zj_iconst (pc := 71) (v := 3) C dL_areLanesSo_71 (by decide) ?_
      refine zj_callQ (pc := 72) C kv_L_44 (qx_LO hu66) dL_areLanesSo_72 0 rfl rfl rfl rfl rfl rfl rfl (OBX_rec hu66) rfl (fun u67 hu67 => ?_)
      refine zj_blk (bs' := [u67]) rfl ?_
      refine zj_top (x' := nI (lnC g (k) 3)) (v_LO hv (k := k) (c := 3) (by omega) (by decide)) ?_
      refine zj_ishl (pc := 75) C dL_areLanesSo_75 ?_
      refine zj_istore (pc := 76) C dL_areLanesSo_76 (Nat.le_of_ble_eq_true rfl) ?_
      refine zj_aload_n (pc := 78) C dL_areLanesSo_78 rfl ?_
      refine zj_iload (pc := 79) C dL_areLanesSo_79 rfl ?_
      refine zj_bipush (pc := 81) (v := 6) C dL_areLanesSo_81 (by decide) ?_
      refine zj_callQ (pc := 83) C kv_L_44 (qx_LO hu67) dL_areLanesSo_83 0 rfl rfl rfl rfl rfl rfl rfl (OBX_rec hu67) rfl (fun u68 hu68 => ?_)
      refine zj_blk (bs' := [u68]) rfl ?_
      refine zj_top (x' := (1 : Int32)) ((v_LO6 hv (k := k) (by omega)).trans (by rw [ht]; rfl)) ?_
      refine zj_iconst (pc := 86) (v := 1) C dL_areLanesSo_86 (by decide) ?_
      refine zj_icmp_ne (pc := 87) 94 C dL_areLanesSo_87 (by decide) (fun cq_ => absurd (by decide) cq_) (fun _ => ?_)
      refine zj_iconst (pc := 90) (v := 1) C dL_areLanesSo_90 (by decide) ?_
      refine zj_goto (pc := 91) (tgt := 95) C dL_areLanesSo_91 (by decide) ?_
      refine zj_istore (pc := 95) C dL_areLanesSo_95 (Nat.le_of_ble_eq_true rfl) ?_
      refine zj_iload_n (pc := 97) C dL_areLanesSo_97 rfl ?_
      refine zj_iload (pc := 98) C dL_areLanesSo_98 rfl ?_
      refine zj_if_eq (pc := 100) 107 C dL_areLanesSo_100 (by decide) (fun cq_ => absurd cq_ (by decide)) (fun _ => ?_)
      refine zj_iconst (pc := 103) (v := 1) C dL_areLanesSo_103 (by decide) ?_
      refine zj_goto (pc := 104) (tgt := 108) C dL_areLanesSo_104 (by decide) ?_
      refine zj_iadd (pc := 108) C dL_areLanesSo_108 ?_
      refine zj_top (x' := nI (cntB (told g) (k + 1))) (by rw [cntB_t ht]; exact nI_1 _) ?_
      refine zj_istore_n (pc := 109) C dL_areLanesSo_109 (Nat.le_of_ble_eq_true rfl) ?_
      refine zj_iload_n (pc := 110) C dL_areLanesSo_110 rfl ?_
      refine zj_iload (pc := 111) C dL_areLanesSo_111 rfl ?_
      refine zj_if_lt (pc := 113) 120 C dL_areLanesSo_113 (by decide) (fun cq_ => absurd cq_ (mt (nI_ltI (a := ck g k) (b := 0) (by omega) (by omega)).mp (by omega))) (fun _ => ?_)
      refine zj_iconst (pc := 116) (v := 1) C dL_areLanesSo_116 (by decide) ?_
      refine zj_goto (pc := 117) (tgt := 121) C dL_areLanesSo_117 (by decide) ?_
      refine zj_iadd (pc := 121) C dL_areLanesSo_121 ?_
      refine zj_top (x' := nI (cntB (hasCk g) (k + 1))) (by rw [cntB_t hh]; exact nI_1 _) ?_
      refine zj_istore_n (pc := 122) C dL_areLanesSo_122 (Nat.le_of_ble_eq_true rfl) ?_
      refine zj_iload (pc := 123) C dL_areLanesSo_123 rfl ?_
      refine zj_if_eq (pc := 125) 342 C dL_areLanesSo_125 (by decide) (fun cq_ => absurd cq_ (by decide)) (fun _ => ?_)
      refine zj_iload (pc := 128) C dL_areLanesSo_128 rfl ?_
      refine zj_iload (pc := 130) C dL_areLanesSo_130 rfl ?_
      refine zj_icmp_eq (pc := 132) 342 C dL_areLanesSo_132 (by decide) (fun cq_ => absurd cq_ (mt (nI_eq (a := lnC g (k) 0) (b := lnC g (k) 1) (by omega) (by omega)).mp (by omega))) (fun _ => ?_)
      refine zj_iload (pc := 135) C dL_areLanesSo_135 rfl ?_
      refine zj_iload (pc := 137) C dL_areLanesSo_137 rfl ?_
      refine zj_icmp_eq (pc := 139) 156 C dL_areLanesSo_139 (by decide) (fun cq_ => absurd cq_ (mt (nI_eq (a := ck g k) (b := lnC g (k) 0) (by omega) (by omega)).mp (by omega))) (fun _ => ?_)
      refine zj_iload (pc := 142) C dL_areLanesSo_142 rfl ?_
      refine zj_iload (pc := 144) C dL_areLanesSo_144 rfl ?_
      refine zj_icmp_eq (pc := 146) 156 C dL_areLanesSo_146 (by decide) (fun _ => ?_) (fun cq_ => absurd ((nI_eq (a := ck g k) (b := lnC g (k) 1) (by omega) (by omega)).mpr (by omega)) cq_)
      refine zj_aload_n (pc := 156) C dL_areLanesSo_156 rfl ?_
      refine zj_iload (pc := 157) C dL_areLanesSo_157 rfl ?_
      refine zj_iconst (pc := 159) (v := 0) C dL_areLanesSo_159 (by decide) ?_
      refine zj_callQ (pc := 160) C kv_L_41 (qx_CO (r := nI (g (lnC g (k) 0))) hu68 (fun W hW => v_CO0 (x := lnC g (k) 0) (by omega))) dL_areLanesSo_160 0 rfl rfl rfl rfl rfl rfl rfl (OBX_rec hu68) rfl (fun u69 hu69 => ?_)
      refine zj_blk (bs' := [u69]) rfl ?_
      refine zj_iload (pc := 163) C dL_areLanesSo_163 rfl ?_
      refine zj_icmp_gt (pc := 165) 342 C dL_areLanesSo_165 (by decide) (fun cq_ => absurd cq_ (mt (nI_ltI (a := g (ck g k)) (b := g (lnC g (k) 0)) (by omega) (by omega)).mp (by omega))) (fun _ => ?_)
      refine zj_aload_n (pc := 168) C dL_areLanesSo_168 rfl ?_
      refine zj_iload (pc := 169) C dL_areLanesSo_169 rfl ?_
      refine zj_iconst (pc := 171) (v := 0) C dL_areLanesSo_171 (by decide) ?_
      refine zj_callQ (pc := 172) C kv_L_41 (qx_CO (r := nI (g (lnC g (k) 1))) hu69 (fun W hW => v_CO0 (x := lnC g (k) 1) (by omega))) dL_areLanesSo_172 0 rfl rfl rfl rfl rfl rfl rfl (OBX_rec hu69) rfl (fun u70 hu70 => ?_)
      refine zj_blk (bs' := [u70]) rfl ?_
      refine zj_iload (pc := 175) C dL_areLanesSo_175 rfl ?_
      refine zj_icmp_gt (pc := 177) 342 C dL_areLanesSo_177 (by decide) (fun cq_ => absurd cq_ (mt (nI_ltI (a := g (ck g k)) (b := g (lnC g (k) 1)) (by omega) (by omega)).mp (by omega))) (fun _ => ?_)
      refine zj_iload (pc := 180) C dL_areLanesSo_180 rfl ?_
      refine zj_if_lt (pc := 182) 189 C dL_areLanesSo_182 (by decide) (fun cq_ => absurd cq_ (mt (nI_ltI (a := ck g k) (b := 0) (by omega) (by omega)).mp (by omega))) (fun _ => ?_)
      refine zj_iconst (pc := 185) (v := 1) C dL_areLanesSo_185 (by decide) ?_
      refine zj_goto (pc := 186) (tgt := 190) C dL_areLanesSo_186 (by decide) ?_
      refine zj_iload (pc := 190) C dL_areLanesSo_190 rfl ?_
      refine zj_if_le (pc := 192) 199 C dL_areLanesSo_192 (by decide) (fun cq_ => absurd cq_ (mt (nI_leI (a := g (ck g k)) (b := 0) (by omega) (by omega)).mp (by omega))) (fun _ => ?_)
      refine zj_iconst (pc := 195) (v := 1) C dL_areLanesSo_195 (by decide) ?_
      refine zj_goto (pc := 196) (tgt := 200) C dL_areLanesSo_196 (by decide) ?_
      refine zj_icmp_ne (pc := 200) 342 C dL_areLanesSo_200 (by decide) (fun cq_ => absurd (by decide) cq_) (fun _ => ?_)
      refine zj_iload (pc := 203) C dL_areLanesSo_203 rfl ?_
      refine zj_if_lt (pc := 205) 239 C dL_areLanesSo_205 (by decide) (fun cq_ => absurd cq_ (mt (nI_ltI (a := ck g k) (b := 0) (by omega) (by omega)).mp (by omega))) (fun _ => ?_)
      refine zj_aload_n (pc := 208) C dL_areLanesSo_208 rfl ?_
      refine zj_iload (pc := 209) C dL_areLanesSo_209 rfl ?_
      refine zj_iconst (pc := 211) (v := 0) C dL_areLanesSo_211 (by decide) ?_
      refine zj_callQ (pc := 212) C kv_L_41 (qx_CO (r := nI (g (lnC g (k) 0))) hu70 (fun W hW => v_CO0 (x := lnC g (k) 0) (by omega))) dL_areLanesSo_212 0 rfl rfl rfl rfl rfl rfl rfl (OBX_rec hu70) rfl (fun u71 hu71 => ?_)
      refine zj_blk (bs' := [u71]) rfl ?_
      refine zj_aload_n (pc := 215) C dL_areLanesSo_215 rfl ?_
      refine zj_iload (pc := 216) C dL_areLanesSo_216 rfl ?_
      refine zj_iconst (pc := 218) (v := 0) C dL_areLanesSo_218 (by decide) ?_
      refine zj_callQ (pc := 219) C kv_L_41 (qx_CO (r := nI (g (lnC g (k) 1))) hu71 (fun W hW => v_CO0 (x := lnC g (k) 1) (by omega))) dL_areLanesSo_219 0 rfl rfl rfl rfl rfl rfl rfl (OBX_rec hu71) rfl (fun u72 hu72 => ?_)
      refine zj_blk (bs' := [u72]) rfl ?_
      refine zj_icmp_ne (pc := 222) 239 C dL_areLanesSo_222 (by decide) (fun c_222 => ?_) (fun c_222 => ?_)
      · refine zj_iload (pc := 239) C dL_areLanesSo_239 rfl ?_
        refine zj_aload_n (pc := 241) C dL_areLanesSo_241 rfl ?_
        refine zj_iload (pc := 242) C dL_areLanesSo_242 rfl ?_
        refine zj_iconst (pc := 244) (v := 4) C dL_areLanesSo_244 (by decide) ?_
        refine zj_callQ (pc := 245) C kv_L_44 (qx_LO hu72) dL_areLanesSo_245 0 rfl rfl rfl rfl rfl rfl rfl (OBX_rec hu72) rfl (fun u73 hu73 => ?_)
        refine zj_blk (bs' := [u73]) rfl ?_
        refine zj_top (x' := nI (lnC g (k) 4)) (v_LO hv (k := k) (c := 4) (by omega) (by decide)) ?_
        refine zj_if_ne (pc := 248) 260 C dL_areLanesSo_248 (by decide) (fun cq_ => absurd ((nI_eq (a := lnC g (k) 4) (b := 0) (by omega) (by omega)).mpr (by omega)) cq_) (fun _ => ?_)
        refine zj_iload (pc := 251) C dL_areLanesSo_251 rfl ?_
        refine zj_if_lt (pc := 253) 260 C dL_areLanesSo_253 (by decide) (fun cq_ => absurd cq_ (mt (nI_ltI (a := ck g k) (b := 0) (by omega) (by omega)).mp (by omega))) (fun _ => ?_)
        refine zj_iconst (pc := 256) (v := 1) C dL_areLanesSo_256 (by decide) ?_
        refine zj_goto (pc := 257) (tgt := 261) C dL_areLanesSo_257 (by decide) ?_
        refine zj_icmp_ne (pc := 261) 342 C dL_areLanesSo_261 (by decide) (fun cq_ => absurd (by decide) cq_) (fun _ => ?_)
        refine zj_iload (pc := 264) C dL_areLanesSo_264 rfl ?_
        refine zj_if_eq (pc := 266) 338 C dL_areLanesSo_266 (by decide) (fun cq_ => absurd cq_ (by decide)) (fun _ => ?_)
        obtain ⟨t1, t2, t3, t4⟩ := told_c hv hkl ht
        refine zj_aload_n (pc := 269) C dL_areLanesSo_269 rfl ?_
        refine zj_iload (pc := 270) C dL_areLanesSo_270 rfl ?_
        refine zj_iconst (pc := 272) (v := 1) C dL_areLanesSo_272 (by decide) ?_
        refine zj_callQ (pc := 273) C kv_L_41 (qx_CO (r := nI (dsV (dst g) (lnC g (k) 0))) hu73 (fun W hW => v_CO1 hW (x := lnC g (k) 0) (by omega))) dL_areLanesSo_273 0 rfl rfl rfl rfl rfl rfl rfl (OBX_rec hu73) rfl (fun u74 hu74 => ?_)
        refine zj_blk (bs' := [u74]) rfl ?_
        refine zj_iload (pc := 276) C dL_areLanesSo_276 rfl ?_
        refine zj_iand (pc := 278) C dL_areLanesSo_278 ?_
        refine zj_if_le (pc := 279) 342 C dL_areLanesSo_279 (by decide) (fun cq_ => absurd cq_ (Int32.not_le.mpr t3)) (fun _ => ?_)
        refine zj_aload_n (pc := 282) C dL_areLanesSo_282 rfl ?_
        refine zj_iload (pc := 283) C dL_areLanesSo_283 rfl ?_
        refine zj_iconst (pc := 285) (v := 1) C dL_areLanesSo_285 (by decide) ?_
        refine zj_callQ (pc := 286) C kv_L_41 (qx_CO (r := nI (dsV (dst g) (lnC g (k) 1))) hu74 (fun W hW => v_CO1 hW (x := lnC g (k) 1) (by omega))) dL_areLanesSo_286 0 rfl rfl rfl rfl rfl rfl rfl (OBX_rec hu74) rfl (fun u75 hu75 => ?_)
        refine zj_blk (bs' := [u75]) rfl ?_
        refine zj_iload (pc := 289) C dL_areLanesSo_289 rfl ?_
        refine zj_iand (pc := 291) C dL_areLanesSo_291 ?_
        refine zj_if_le (pc := 292) 342 C dL_areLanesSo_292 (by decide) (fun cq_ => absurd cq_ (Int32.not_le.mpr t4)) (fun _ => ?_)
        refine zj_aload_n (pc := 295) C dL_areLanesSo_295 rfl ?_
        refine zj_aload_n (pc := 296) C dL_areLanesSo_296 rfl ?_
        refine zj_iload (pc := 297) C dL_areLanesSo_297 rfl ?_
        refine zj_iconst (pc := 299) (v := 3) C dL_areLanesSo_299 (by decide) ?_
        refine zj_callQ (pc := 300) C kv_L_44 (qx_LO hu75) dL_areLanesSo_300 0 rfl rfl rfl rfl rfl rfl rfl (OBX_rec hu75) rfl (fun u76 hu76 => ?_)
        refine zj_blk (bs' := [u76]) rfl ?_
        refine zj_top (x' := nI (lnC g (k) 3)) (v_LO hv (k := k) (c := 3) (by omega) (by decide)) ?_
        refine zj_iload (pc := 303) C dL_areLanesSo_303 rfl ?_
        refine zj_iload (pc := 305) C dL_areLanesSo_305 rfl ?_
        refine zj_callQ (pc := 307) C kv_L_50 (qx_WI (r := nI (dst g (lnC g (k) 3) (lnC g (k) 0) (lnC g (k) 1))) hu76 (fun W hW => ((v_WI hW (by omega) (by omega) (by omega)).trans (if_pos (by omega))))) dL_areLanesSo_307 0 rfl rfl rfl rfl rfl rfl rfl (OBX_rec hu76) rfl (fun u77 hu77 => ?_)
        refine zj_blk (bs' := [u77]) rfl ?_
        refine zj_aload_n (pc := 310) C dL_areLanesSo_310 rfl ?_
        refine zj_iload (pc := 311) C dL_areLanesSo_311 rfl ?_
        refine zj_iconst (pc := 313) (v := 2) C dL_areLanesSo_313 (by decide) ?_
        refine zj_callQ (pc := 314) C kv_L_44 (qx_LO hu77) dL_areLanesSo_314 0 rfl rfl rfl rfl rfl rfl rfl (OBX_rec hu77) rfl (fun u78 hu78 => ?_)
        refine zj_blk (bs' := [u78]) rfl ?_
        refine zj_top (x' := nI (lnC g (k) 2)) (v_LO hv (k := k) (c := 2) (by omega) (by decide)) ?_
        refine zj_icmp_gt (pc := 317) 342 C dL_areLanesSo_317 (by decide) (fun cq_ => absurd cq_ (mt (nI_ltI (a := lnC g (k) 2) (b := dst g (lnC g (k) 3) (lnC g (k) 0) (lnC g (k) 1)) (by omega) (by omega)).mp (by omega))) (fun _ => ?_)
        refine zj_aload_n (pc := 320) C dL_areLanesSo_320 rfl ?_
        refine zj_aload_n (pc := 321) C dL_areLanesSo_321 rfl ?_
        refine zj_iload (pc := 322) C dL_areLanesSo_322 rfl ?_
        refine zj_iconst (pc := 324) (v := 3) C dL_areLanesSo_324 (by decide) ?_
        refine zj_callQ (pc := 325) C kv_L_44 (qx_LO hu78) dL_areLanesSo_325 0 rfl rfl rfl rfl rfl rfl rfl (OBX_rec hu78) rfl (fun u79 hu79 => ?_)
        refine zj_blk (bs' := [u79]) rfl ?_
        refine zj_top (x' := nI (lnC g (k) 3)) (v_LO hv (k := k) (c := 3) (by omega) (by decide)) ?_
        refine zj_iload (pc := 328) C dL_areLanesSo_328 rfl ?_
        refine zj_iload (pc := 330) C dL_areLanesSo_330 rfl ?_
        refine zj_callQ (pc := 332) C kv_L_50 (qx_WI (r := nI (dst g (lnC g (k) 3) (lnC g (k) 0) (lnC g (k) 1))) hu79 (fun W hW => ((v_WI hW (by omega) (by omega) (by omega)).trans (if_pos (by omega))))) dL_areLanesSo_332 0 rfl rfl rfl rfl rfl rfl rfl (OBX_rec hu79) rfl (fun u80 hu80 => ?_)
        refine zj_blk (bs' := [u80]) rfl ?_
        refine zj_if_le (pc := 335) 342 C dL_areLanesSo_335 (by decide) (fun cq_ => absurd cq_ (mt (nI_leI (a := dst g (lnC g (k) 3) (lnC g (k) 0) (lnC g (k) 1)) (b := 0) (by omega) (by omega)).mp (by omega))) (fun _ => ?_)
        refine zj_iconst (pc := 338) (v := 1) C dL_areLanesSo_338 (by decide) ?_
        refine zj_goto (pc := 339) (tgt := 343) C dL_areLanesSo_339 (by decide) ?_
        refine zj_istore (pc := 343) C dL_areLanesSo_343 (Nat.le_of_ble_eq_true rfl) ?_
        refine zj_iinc (pc := 345) (v := nI (k + 1)) C dL_areLanesSo_345 rfl (nI_1 _) ?_
        refine zj_goto (pc := 348) (tgt := 12) C dL_areLanesSo_348 (by decide) ?_
        refine zj_keep [true, true, true, true, true, true, false, false, false, false, false, false] ?_
        exact ih (k + 1, u80) ⟨by show k + 1 ≤ kL g; omega, hu80⟩ (by show kL g - (k + 1) < kL g - k; omega)
      · have hge2 := hge ((nI_eq (a := g (lnC g k 0)) (b := g (lnC g k 1)) (by omega) (by omega)).mp c_222)
        refine zj_iload (pc := 225) C dL_areLanesSo_225 rfl ?_
        refine zj_iload (pc := 227) C dL_areLanesSo_227 rfl ?_
        refine zj_icmp_lt (pc := 229) 342 C dL_areLanesSo_229 (by decide) (fun cq_ => absurd cq_ (mt (nI_ltI (a := ck g k) (b := lnC g (k) 0) (by omega) (by omega)).mp (by omega))) (fun _ => ?_)
        refine zj_iload (pc := 232) C dL_areLanesSo_232 rfl ?_
        refine zj_iload (pc := 234) C dL_areLanesSo_234 rfl ?_
        refine zj_icmp_lt (pc := 236) 342 C dL_areLanesSo_236 (by decide) (fun cq_ => absurd cq_ (mt (nI_ltI (a := ck g k) (b := lnC g (k) 1) (by omega) (by omega)).mp (by omega))) (fun _ => ?_)
        refine zj_iload (pc := 239) C dL_areLanesSo_239 rfl ?_
        refine zj_aload_n (pc := 241) C dL_areLanesSo_241 rfl ?_
        refine zj_iload (pc := 242) C dL_areLanesSo_242 rfl ?_
        refine zj_iconst (pc := 244) (v := 4) C dL_areLanesSo_244 (by decide) ?_
        refine zj_callQ (pc := 245) C kv_L_44 (qx_LO hu72) dL_areLanesSo_245 0 rfl rfl rfl rfl rfl rfl rfl (OBX_rec hu72) rfl (fun u81 hu81 => ?_)
        refine zj_blk (bs' := [u81]) rfl ?_
        refine zj_top (x' := nI (lnC g (k) 4)) (v_LO hv (k := k) (c := 4) (by omega) (by decide)) ?_
        refine zj_if_ne (pc := 248) 260 C dL_areLanesSo_248 (by decide) (fun cq_ => absurd ((nI_eq (a := lnC g (k) 4) (b := 0) (by omega) (by omega)).mpr (by omega)) cq_) (fun _ => ?_)
        refine zj_iload (pc := 251) C dL_areLanesSo_251 rfl ?_
        refine zj_if_lt (pc := 253) 260 C dL_areLanesSo_253 (by decide) (fun cq_ => absurd cq_ (mt (nI_ltI (a := ck g k) (b := 0) (by omega) (by omega)).mp (by omega))) (fun _ => ?_)
        refine zj_iconst (pc := 256) (v := 1) C dL_areLanesSo_256 (by decide) ?_
        refine zj_goto (pc := 257) (tgt := 261) C dL_areLanesSo_257 (by decide) ?_
        refine zj_icmp_ne (pc := 261) 342 C dL_areLanesSo_261 (by decide) (fun cq_ => absurd (by decide) cq_) (fun _ => ?_)
        refine zj_iload (pc := 264) C dL_areLanesSo_264 rfl ?_
        refine zj_if_eq (pc := 266) 338 C dL_areLanesSo_266 (by decide) (fun cq_ => absurd cq_ (by decide)) (fun _ => ?_)
        obtain ⟨t1, t2, t3, t4⟩ := told_c hv hkl ht
        refine zj_aload_n (pc := 269) C dL_areLanesSo_269 rfl ?_
        refine zj_iload (pc := 270) C dL_areLanesSo_270 rfl ?_
        refine zj_iconst (pc := 272) (v := 1) C dL_areLanesSo_272 (by decide) ?_
        refine zj_callQ (pc := 273) C kv_L_41 (qx_CO (r := nI (dsV (dst g) (lnC g (k) 0))) hu81 (fun W hW => v_CO1 hW (x := lnC g (k) 0) (by omega))) dL_areLanesSo_273 0 rfl rfl rfl rfl rfl rfl rfl (OBX_rec hu81) rfl (fun u82 hu82 => ?_)
        refine zj_blk (bs' := [u82]) rfl ?_
        refine zj_iload (pc := 276) C dL_areLanesSo_276 rfl ?_
        refine zj_iand (pc := 278) C dL_areLanesSo_278 ?_
        refine zj_if_le (pc := 279) 342 C dL_areLanesSo_279 (by decide) (fun cq_ => absurd cq_ (Int32.not_le.mpr t3)) (fun _ => ?_)
        refine zj_aload_n (pc := 282) C dL_areLanesSo_282 rfl ?_
        refine zj_iload (pc := 283) C dL_areLanesSo_283 rfl ?_
        refine zj_iconst (pc := 285) (v := 1) C dL_areLanesSo_285 (by decide) ?_
        refine zj_callQ (pc := 286) C kv_L_41 (qx_CO (r := nI (dsV (dst g) (lnC g (k) 1))) hu82 (fun W hW => v_CO1 hW (x := lnC g (k) 1) (by omega))) dL_areLanesSo_286 0 rfl rfl rfl rfl rfl rfl rfl (OBX_rec hu82) rfl (fun u83 hu83 => ?_)
        refine zj_blk (bs' := [u83]) rfl ?_
        refine zj_iload (pc := 289) C dL_areLanesSo_289 rfl ?_
        refine zj_iand (pc := 291) C dL_areLanesSo_291 ?_
        refine zj_if_le (pc := 292) 342 C dL_areLanesSo_292 (by decide) (fun cq_ => absurd cq_ (Int32.not_le.mpr t4)) (fun _ => ?_)
        refine zj_aload_n (pc := 295) C dL_areLanesSo_295 rfl ?_
        refine zj_aload_n (pc := 296) C dL_areLanesSo_296 rfl ?_
        refine zj_iload (pc := 297) C dL_areLanesSo_297 rfl ?_
        refine zj_iconst (pc := 299) (v := 3) C dL_areLanesSo_299 (by decide) ?_
        refine zj_callQ (pc := 300) C kv_L_44 (qx_LO hu83) dL_areLanesSo_300 0 rfl rfl rfl rfl rfl rfl rfl (OBX_rec hu83) rfl (fun u84 hu84 => ?_)
        refine zj_blk (bs' := [u84]) rfl ?_
        refine zj_top (x' := nI (lnC g (k) 3)) (v_LO hv (k := k) (c := 3) (by omega) (by decide)) ?_
        refine zj_iload (pc := 303) C dL_areLanesSo_303 rfl ?_
        refine zj_iload (pc := 305) C dL_areLanesSo_305 rfl ?_
        refine zj_callQ (pc := 307) C kv_L_50 (qx_WI (r := nI (dst g (lnC g (k) 3) (lnC g (k) 0) (lnC g (k) 1))) hu84 (fun W hW => ((v_WI hW (by omega) (by omega) (by omega)).trans (if_pos (by omega))))) dL_areLanesSo_307 0 rfl rfl rfl rfl rfl rfl rfl (OBX_rec hu84) rfl (fun u85 hu85 => ?_)
        refine zj_blk (bs' := [u85]) rfl ?_
        refine zj_aload_n (pc := 310) C dL_areLanesSo_310 rfl ?_
        refine zj_iload (pc := 311) C dL_areLanesSo_311 rfl ?_
        refine zj_iconst (pc := 313) (v := 2) C dL_areLanesSo_313 (by decide) ?_
        refine zj_callQ (pc := 314) C kv_L_44 (qx_LO hu85) dL_areLanesSo_314 0 rfl rfl rfl rfl rfl rfl rfl (OBX_rec hu85) rfl (fun u86 hu86 => ?_)
        refine zj_blk (bs' := [u86]) rfl ?_
        refine zj_top (x' := nI (lnC g (k) 2)) (v_LO hv (k := k) (c := 2) (by omega) (by decide)) ?_
        refine zj_icmp_gt (pc := 317) 342 C dL_areLanesSo_317 (by decide) (fun cq_ => absurd cq_ (mt (nI_ltI (a := lnC g (k) 2) (b := dst g (lnC g (k) 3) (lnC g (k) 0) (lnC g (k) 1)) (by omega) (by omega)).mp (by omega))) (fun _ => ?_)
        refine zj_aload_n (pc := 320) C dL_areLanesSo_320 rfl ?_
        refine zj_aload_n (pc := 321) C dL_areLanesSo_321 rfl ?_
        refine zj_iload (pc := 322) C dL_areLanesSo_322 rfl ?_
        refine zj_iconst (pc := 324) (v := 3) C dL_areLanesSo_324 (by decide) ?_
        refine zj_callQ (pc := 325) C kv_L_44 (qx_LO hu86) dL_areLanesSo_325 0 rfl rfl rfl rfl rfl rfl rfl (OBX_rec hu86) rfl (fun u87 hu87 => ?_)
        refine zj_blk (bs' := [u87]) rfl ?_
        refine zj_top (x' := nI (lnC g (k) 3)) (v_LO hv (k := k) (c := 3) (by omega) (by decide)) ?_
        refine zj_iload (pc := 328) C dL_areLanesSo_328 rfl ?_
        refine zj_iload (pc := 330) C dL_areLanesSo_330 rfl ?_
        refine zj_callQ (pc := 332) C kv_L_50 (qx_WI (r := nI (dst g (lnC g (k) 3) (lnC g (k) 0) (lnC g (k) 1))) hu87 (fun W hW => ((v_WI hW (by omega) (by omega) (by omega)).trans (if_pos (by omega))))) dL_areLanesSo_332 0 rfl rfl rfl rfl rfl rfl rfl (OBX_rec hu87) rfl (fun u88 hu88 => ?_)
        refine zj_blk (bs' := [u88]) rfl ?_
        refine zj_if_le (pc := 335) 342 C dL_areLanesSo_335 (by decide) (fun cq_ => absurd cq_ (mt (nI_leI (a := dst g (lnC g (k) 3) (lnC g (k) 0) (lnC g (k) 1)) (b := 0) (by omega) (by omega)).mp (by omega))) (fun _ => ?_)
        refine zj_iconst (pc := 338) (v := 1) C dL_areLanesSo_338 (by decide) ?_
        refine zj_goto (pc := 339) (tgt := 343) C dL_areLanesSo_339 (by decide) ?_
        refine zj_istore (pc := 343) C dL_areLanesSo_343 (Nat.le_of_ble_eq_true rfl) ?_
        refine zj_iinc (pc := 345) (v := nI (k + 1)) C dL_areLanesSo_345 rfl (nI_1 _) ?_
        refine zj_goto (pc := 348) (tgt := 12) C dL_areLanesSo_348 (by decide) ?_
        refine zj_keep [true, true, true, true, true, true, false, false, false, false, false, false] ?_
        exact ih (k + 1, u88) ⟨by show k + 1 ≤ kL g; omega, hu88⟩ (by show kL g - (k + 1) < kL g - k; omega)
    · have rkc := hv.2.2.1 _ c14
      refine zj_aload_n (pc := 22) C dL_areLanesSo_22 rfl ?_
      refine zj_iload (pc := 23) C dL_areLanesSo_23 rfl ?_
      refine zj_iconst (pc := 25) (v := 0) C dL_areLanesSo_25 (by decide) ?_
      refine zj_callQ (pc := 26) C kv_L_44 (qx_LO hu1) dL_areLanesSo_26 0 rfl rfl rfl rfl rfl rfl rfl (OBX_rec hu1) rfl (fun u89 hu89 => ?_)
      refine zj_blk (bs' := [u89]) rfl ?_
      refine zj_top (x' := nI (lnC g (k) 0)) (v_LO hv (k := k) (c := 0) (by omega) (by decide)) ?_
      refine zj_istore (pc := 29) C dL_areLanesSo_29 (Nat.le_of_ble_eq_true rfl) ?_
      refine zj_aload_n (pc := 31) C dL_areLanesSo_31 rfl ?_
      refine zj_iload (pc := 32) C dL_areLanesSo_32 rfl ?_
      refine zj_iconst (pc := 34) (v := 1) C dL_areLanesSo_34 (by decide) ?_
      refine zj_callQ (pc := 35) C kv_L_44 (qx_LO hu89) dL_areLanesSo_35 0 rfl rfl rfl rfl rfl rfl rfl (OBX_rec hu89) rfl (fun u90 hu90 => ?_)
      refine zj_blk (bs' := [u90]) rfl ?_
      refine zj_top (x' := nI (lnC g (k) 1)) (v_LO hv (k := k) (c := 1) (by omega) (by decide)) ?_
      refine zj_istore (pc := 38) C dL_areLanesSo_38 (Nat.le_of_ble_eq_true rfl) ?_
      refine zj_aload_n (pc := 40) C dL_areLanesSo_40 rfl ?_
      refine zj_iload (pc := 41) C dL_areLanesSo_41 rfl ?_
      refine zj_iconst (pc := 43) (v := 5) C dL_areLanesSo_43 (by decide) ?_
      refine zj_callQ (pc := 44) C kv_L_44 (qx_LO hu90) dL_areLanesSo_44 0 rfl rfl rfl rfl rfl rfl rfl (OBX_rec hu90) rfl (fun u91 hu91 => ?_)
      refine zj_blk (bs' := [u91]) rfl ?_
      refine zj_top (x' := nI (ck g k)) ((v_LO5 hv (k := k) (by omega)).trans hck) ?_
      refine zj_istore (pc := 47) C dL_areLanesSo_47 (Nat.le_of_ble_eq_true rfl) ?_
      refine zj_iload (pc := 49) C dL_areLanesSo_49 rfl ?_
      refine zj_if_ge (pc := 51) 58 C dL_areLanesSo_51 (by decide) (fun _ => ?_) (fun cq_ => absurd ((nI_leI (a := 0) (b := ck g k) (by omega) (by omega)).mpr (by omega)) cq_)
      refine zj_aload_n (pc := 58) C dL_areLanesSo_58 rfl ?_
      refine zj_iload (pc := 59) C dL_areLanesSo_59 rfl ?_
      refine zj_iconst (pc := 61) (v := 0) C dL_areLanesSo_61 (by decide) ?_
      refine zj_callQ (pc := 62) C kv_L_41 (qx_CO (r := nI (g (ck g k))) hu91 (fun W hW => v_CO0 (x := ck g k) (by omega))) dL_areLanesSo_62 0 rfl rfl rfl rfl rfl rfl rfl (OBX_rec hu91) rfl (fun u92 hu92 => ?_)
      refine zj_blk (bs' := [u92]) rfl ?_
      refine zj_istore (pc := 65) C dL_areLanesSo_65 (Nat.le_of_ble_eq_true rfl) ?_
      refine zj_iconst (pc := 67) (v := 1) C dL_areLanesSo_67 (by decide) ?_
      refine zj_aload_n (pc := 68) C dL_areLanesSo_68 rfl ?_
      refine zj_iload (pc := 69) C dL_areLanesSo_69 rfl ?_
      refine zj_iconst (pc := 71) (v := 3) C dL_areLanesSo_71 (by decide) ?_
      refine zj_callQ (pc := 72) C kv_L_44 (qx_LO hu92) dL_areLanesSo_72 0 rfl rfl rfl rfl rfl rfl rfl (OBX_rec hu92) rfl (fun u93 hu93 => ?_)
      refine zj_blk (bs' := [u93]) rfl ?_
      refine zj_top (x' := nI (lnC g (k) 3)) (v_LO hv (k := k) (c := 3) (by omega) (by decide)) ?_
      refine zj_ishl (pc := 75) C dL_areLanesSo_75 ?_
      refine zj_istore (pc := 76) C dL_areLanesSo_76 (Nat.le_of_ble_eq_true rfl) ?_
      refine zj_aload_n (pc := 78) C dL_areLanesSo_78 rfl ?_
      refine zj_iload (pc := 79) C dL_areLanesSo_79 rfl ?_
      refine zj_bipush (pc := 81) (v := 6) C dL_areLanesSo_81 (by decide) ?_
      refine zj_callQ (pc := 83) C kv_L_44 (qx_LO hu93) dL_areLanesSo_83 0 rfl rfl rfl rfl rfl rfl rfl (OBX_rec hu93) rfl (fun u94 hu94 => ?_)
      refine zj_blk (bs' := [u94]) rfl ?_
      refine zj_top (x' := (0 : Int32)) ((v_LO6 hv (k := k) (by omega)).trans (by rw [ht]; rfl)) ?_
      refine zj_iconst (pc := 86) (v := 1) C dL_areLanesSo_86 (by decide) ?_
      refine zj_icmp_ne (pc := 87) 94 C dL_areLanesSo_87 (by decide) (fun _ => ?_) (fun cq_ => absurd cq_ (by decide))
      refine zj_iconst (pc := 94) (v := 0) C dL_areLanesSo_94 (by decide) ?_
      refine zj_istore (pc := 95) C dL_areLanesSo_95 (Nat.le_of_ble_eq_true rfl) ?_
      refine zj_iload_n (pc := 97) C dL_areLanesSo_97 rfl ?_
      refine zj_iload (pc := 98) C dL_areLanesSo_98 rfl ?_
      refine zj_if_eq (pc := 100) 107 C dL_areLanesSo_100 (by decide) (fun _ => ?_) (fun cq_ => absurd (by decide) cq_)
      refine zj_iconst (pc := 107) (v := 0) C dL_areLanesSo_107 (by decide) ?_
      refine zj_iadd (pc := 108) C dL_areLanesSo_108 ?_
      refine zj_top (x' := nI (cntB (told g) (k + 1))) (by rw [cntB_f ht]; exact Int32.add_zero _) ?_
      refine zj_istore_n (pc := 109) C dL_areLanesSo_109 (Nat.le_of_ble_eq_true rfl) ?_
      refine zj_iload_n (pc := 110) C dL_areLanesSo_110 rfl ?_
      refine zj_iload (pc := 111) C dL_areLanesSo_111 rfl ?_
      refine zj_if_lt (pc := 113) 120 C dL_areLanesSo_113 (by decide) (fun cq_ => absurd cq_ (mt (nI_ltI (a := ck g k) (b := 0) (by omega) (by omega)).mp (by omega))) (fun _ => ?_)
      refine zj_iconst (pc := 116) (v := 1) C dL_areLanesSo_116 (by decide) ?_
      refine zj_goto (pc := 117) (tgt := 121) C dL_areLanesSo_117 (by decide) ?_
      refine zj_iadd (pc := 121) C dL_areLanesSo_121 ?_
      refine zj_top (x' := nI (cntB (hasCk g) (k + 1))) (by rw [cntB_t hh]; exact nI_1 _) ?_
      refine zj_istore_n (pc := 122) C dL_areLanesSo_122 (Nat.le_of_ble_eq_true rfl) ?_
      refine zj_iload (pc := 123) C dL_areLanesSo_123 rfl ?_
      refine zj_if_eq (pc := 125) 342 C dL_areLanesSo_125 (by decide) (fun cq_ => absurd cq_ (by decide)) (fun _ => ?_)
      refine zj_iload (pc := 128) C dL_areLanesSo_128 rfl ?_
      refine zj_iload (pc := 130) C dL_areLanesSo_130 rfl ?_
      refine zj_icmp_eq (pc := 132) 342 C dL_areLanesSo_132 (by decide) (fun cq_ => absurd cq_ (mt (nI_eq (a := lnC g (k) 0) (b := lnC g (k) 1) (by omega) (by omega)).mp (by omega))) (fun _ => ?_)
      refine zj_iload (pc := 135) C dL_areLanesSo_135 rfl ?_
      refine zj_iload (pc := 137) C dL_areLanesSo_137 rfl ?_
      refine zj_icmp_eq (pc := 139) 156 C dL_areLanesSo_139 (by decide) (fun cq_ => absurd cq_ (mt (nI_eq (a := ck g k) (b := lnC g (k) 0) (by omega) (by omega)).mp (by omega))) (fun _ => ?_)
      refine zj_iload (pc := 142) C dL_areLanesSo_142 rfl ?_
      refine zj_iload (pc := 144) C dL_areLanesSo_144 rfl ?_
      refine zj_icmp_eq (pc := 146) 156 C dL_areLanesSo_146 (by decide) (fun _ => ?_) (fun cq_ => absurd ((nI_eq (a := ck g k) (b := lnC g (k) 1) (by omega) (by omega)).mpr (by omega)) cq_)
      refine zj_aload_n (pc := 156) C dL_areLanesSo_156 rfl ?_
      refine zj_iload (pc := 157) C dL_areLanesSo_157 rfl ?_
      refine zj_iconst (pc := 159) (v := 0) C dL_areLanesSo_159 (by decide) ?_
      refine zj_callQ (pc := 160) C kv_L_41 (qx_CO (r := nI (g (lnC g (k) 0))) hu94 (fun W hW => v_CO0 (x := lnC g (k) 0) (by omega))) dL_areLanesSo_160 0 rfl rfl rfl rfl rfl rfl rfl (OBX_rec hu94) rfl (fun u95 hu95 => ?_)
      refine zj_blk (bs' := [u95]) rfl ?_
      refine zj_iload (pc := 163) C dL_areLanesSo_163 rfl ?_
      refine zj_icmp_gt (pc := 165) 342 C dL_areLanesSo_165 (by decide) (fun cq_ => absurd cq_ (mt (nI_ltI (a := g (ck g k)) (b := g (lnC g (k) 0)) (by omega) (by omega)).mp (by omega))) (fun _ => ?_)
      refine zj_aload_n (pc := 168) C dL_areLanesSo_168 rfl ?_
      refine zj_iload (pc := 169) C dL_areLanesSo_169 rfl ?_
      refine zj_iconst (pc := 171) (v := 0) C dL_areLanesSo_171 (by decide) ?_
      refine zj_callQ (pc := 172) C kv_L_41 (qx_CO (r := nI (g (lnC g (k) 1))) hu95 (fun W hW => v_CO0 (x := lnC g (k) 1) (by omega))) dL_areLanesSo_172 0 rfl rfl rfl rfl rfl rfl rfl (OBX_rec hu95) rfl (fun u96 hu96 => ?_)
      refine zj_blk (bs' := [u96]) rfl ?_
      refine zj_iload (pc := 175) C dL_areLanesSo_175 rfl ?_
      refine zj_icmp_gt (pc := 177) 342 C dL_areLanesSo_177 (by decide) (fun cq_ => absurd cq_ (mt (nI_ltI (a := g (ck g k)) (b := g (lnC g (k) 1)) (by omega) (by omega)).mp (by omega))) (fun _ => ?_)
      refine zj_iload (pc := 180) C dL_areLanesSo_180 rfl ?_
      refine zj_if_lt (pc := 182) 189 C dL_areLanesSo_182 (by decide) (fun cq_ => absurd cq_ (mt (nI_ltI (a := ck g k) (b := 0) (by omega) (by omega)).mp (by omega))) (fun _ => ?_)
      refine zj_iconst (pc := 185) (v := 1) C dL_areLanesSo_185 (by decide) ?_
      refine zj_goto (pc := 186) (tgt := 190) C dL_areLanesSo_186 (by decide) ?_
      refine zj_iload (pc := 190) C dL_areLanesSo_190 rfl ?_
      refine zj_if_le (pc := 192) 199 C dL_areLanesSo_192 (by decide) (fun cq_ => absurd cq_ (mt (nI_leI (a := g (ck g k)) (b := 0) (by omega) (by omega)).mp (by omega))) (fun _ => ?_)
      refine zj_iconst (pc := 195) (v := 1) C dL_areLanesSo_195 (by decide) ?_
      refine zj_goto (pc := 196) (tgt := 200) C dL_areLanesSo_196 (by decide) ?_
      refine zj_icmp_ne (pc := 200) 342 C dL_areLanesSo_200 (by decide) (fun cq_ => absurd (by decide) cq_) (fun _ => ?_)
      refine zj_iload (pc := 203) C dL_areLanesSo_203 rfl ?_
      refine zj_if_lt (pc := 205) 239 C dL_areLanesSo_205 (by decide) (fun cq_ => absurd cq_ (mt (nI_ltI (a := ck g k) (b := 0) (by omega) (by omega)).mp (by omega))) (fun _ => ?_)
      refine zj_aload_n (pc := 208) C dL_areLanesSo_208 rfl ?_
      refine zj_iload (pc := 209) C dL_areLanesSo_209 rfl ?_
      refine zj_iconst (pc := 211) (v := 0) C dL_areLanesSo_211 (by decide) ?_
      refine zj_callQ (pc := 212) C kv_L_41 (qx_CO (r := nI (g (lnC g (k) 0))) hu96 (fun W hW => v_CO0 (x := lnC g (k) 0) (by omega))) dL_areLanesSo_212 0 rfl rfl rfl rfl rfl rfl rfl (OBX_rec hu96) rfl (fun u97 hu97 => ?_)
      refine zj_blk (bs' := [u97]) rfl ?_
      refine zj_aload_n (pc := 215) C dL_areLanesSo_215 rfl ?_
      refine zj_iload (pc := 216) C dL_areLanesSo_216 rfl ?_
      refine zj_iconst (pc := 218) (v := 0) C dL_areLanesSo_218 (by decide) ?_
      refine zj_callQ (pc := 219) C kv_L_41 (qx_CO (r := nI (g (lnC g (k) 1))) hu97 (fun W hW => v_CO0 (x := lnC g (k) 1) (by omega))) dL_areLanesSo_219 0 rfl rfl rfl rfl rfl rfl rfl (OBX_rec hu97) rfl (fun u98 hu98 => ?_)
      refine zj_blk (bs' := [u98]) rfl ?_
      refine zj_icmp_ne (pc := 222) 239 C dL_areLanesSo_222 (by decide) (fun c_222 => ?_) (fun c_222 => ?_)
      · refine zj_iload (pc := 239) C dL_areLanesSo_239 rfl ?_
        refine zj_aload_n (pc := 241) C dL_areLanesSo_241 rfl ?_
        refine zj_iload (pc := 242) C dL_areLanesSo_242 rfl ?_
        refine zj_iconst (pc := 244) (v := 4) C dL_areLanesSo_244 (by decide) ?_
        refine zj_callQ (pc := 245) C kv_L_44 (qx_LO hu98) dL_areLanesSo_245 0 rfl rfl rfl rfl rfl rfl rfl (OBX_rec hu98) rfl (fun u99 hu99 => ?_)
        refine zj_blk (bs' := [u99]) rfl ?_
        refine zj_top (x' := nI (lnC g (k) 4)) (v_LO hv (k := k) (c := 4) (by omega) (by decide)) ?_
        refine zj_if_ne (pc := 248) 260 C dL_areLanesSo_248 (by decide) (fun _ => ?_) (fun cq_ => absurd cq_ (mt (nI_eq (a := lnC g (k) 4) (b := 0) (by omega) (by omega)).mp (by omega)))
        refine zj_iconst (pc := 260) (v := 0) C dL_areLanesSo_260 (by decide) ?_
        refine zj_icmp_ne (pc := 261) 342 C dL_areLanesSo_261 (by decide) (fun cq_ => absurd (by decide) cq_) (fun _ => ?_)
        refine zj_iload (pc := 264) C dL_areLanesSo_264 rfl ?_
        refine zj_if_eq (pc := 266) 338 C dL_areLanesSo_266 (by decide) (fun _ => ?_) (fun cq_ => absurd (by decide) cq_)
        refine zj_iconst (pc := 338) (v := 1) C dL_areLanesSo_338 (by decide) ?_
        refine zj_goto (pc := 339) (tgt := 343) C dL_areLanesSo_339 (by decide) ?_
        refine zj_istore (pc := 343) C dL_areLanesSo_343 (Nat.le_of_ble_eq_true rfl) ?_
        refine zj_iinc (pc := 345) (v := nI (k + 1)) C dL_areLanesSo_345 rfl (nI_1 _) ?_
        refine zj_goto (pc := 348) (tgt := 12) C dL_areLanesSo_348 (by decide) ?_
        refine zj_keep [true, true, true, true, true, true, false, false, false, false, false, false] ?_
        exact ih (k + 1, u99) ⟨by show k + 1 ≤ kL g; omega, hu99⟩ (by show kL g - (k + 1) < kL g - k; omega)
      · have hge2 := hge ((nI_eq (a := g (lnC g k 0)) (b := g (lnC g k 1)) (by omega) (by omega)).mp c_222)
        refine zj_iload (pc := 225) C dL_areLanesSo_225 rfl ?_
        refine zj_iload (pc := 227) C dL_areLanesSo_227 rfl ?_
        refine zj_icmp_lt (pc := 229) 342 C dL_areLanesSo_229 (by decide) (fun cq_ => absurd cq_ (mt (nI_ltI (a := ck g k) (b := lnC g (k) 0) (by omega) (by omega)).mp (by omega))) (fun _ => ?_)
        refine zj_iload (pc := 232) C dL_areLanesSo_232 rfl ?_
        refine zj_iload (pc := 234) C dL_areLanesSo_234 rfl ?_
        refine zj_icmp_lt (pc := 236) 342 C dL_areLanesSo_236 (by decide) (fun cq_ => absurd cq_ (mt (nI_ltI (a := ck g k) (b := lnC g (k) 1) (by omega) (by omega)).mp (by omega))) (fun _ => ?_)
        refine zj_iload (pc := 239) C dL_areLanesSo_239 rfl ?_
        refine zj_aload_n (pc := 241) C dL_areLanesSo_241 rfl ?_
        refine zj_iload (pc := 242) C dL_areLanesSo_242 rfl ?_
        refine zj_iconst (pc := 244) (v := 4) C dL_areLanesSo_244 (by decide) ?_
        refine zj_callQ (pc := 245) C kv_L_44 (qx_LO hu98) dL_areLanesSo_245 0 rfl rfl rfl rfl rfl rfl rfl (OBX_rec hu98) rfl (fun u100 hu100 => ?_)
        refine zj_blk (bs' := [u100]) rfl ?_
        refine zj_top (x' := nI (lnC g (k) 4)) (v_LO hv (k := k) (c := 4) (by omega) (by decide)) ?_
        refine zj_if_ne (pc := 248) 260 C dL_areLanesSo_248 (by decide) (fun _ => ?_) (fun cq_ => absurd cq_ (mt (nI_eq (a := lnC g (k) 4) (b := 0) (by omega) (by omega)).mp (by omega)))
        refine zj_iconst (pc := 260) (v := 0) C dL_areLanesSo_260 (by decide) ?_
        refine zj_icmp_ne (pc := 261) 342 C dL_areLanesSo_261 (by decide) (fun cq_ => absurd (by decide) cq_) (fun _ => ?_)
        refine zj_iload (pc := 264) C dL_areLanesSo_264 rfl ?_
        refine zj_if_eq (pc := 266) 338 C dL_areLanesSo_266 (by decide) (fun _ => ?_) (fun cq_ => absurd (by decide) cq_)
        refine zj_iconst (pc := 338) (v := 1) C dL_areLanesSo_338 (by decide) ?_
        refine zj_goto (pc := 339) (tgt := 343) C dL_areLanesSo_339 (by decide) ?_
        refine zj_istore (pc := 343) C dL_areLanesSo_343 (Nat.le_of_ble_eq_true rfl) ?_
        refine zj_iinc (pc := 345) (v := nI (k + 1)) C dL_areLanesSo_345 rfl (nI_1 _) ?_
        refine zj_goto (pc := 348) (tgt := 12) C dL_areLanesSo_348 (by decide) ?_
        refine zj_keep [true, true, true, true, true, true, false, false, false, false, false, false] ?_
        exact ih (k + 1, u100) ⟨by show k + 1 ≤ kL g; omega, hu100⟩ (by show kL g - (k + 1) < kL g - k; omega)
