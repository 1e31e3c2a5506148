/-! THE LAW'S METHODS: totals -/
section TF
variable {g : Nat → Nat} {W : TC}
def shD4 (g : Nat → Nat) (al x : Nat) : Nat := dst g 4 x (aC g al) + aL g al
def wiD (g : Nat → Nat) (al x : Nat) : Nat := dst g (aD g al) x (aC g al)
/-- the steps of one that isn't at its end -/
def stpF (g : Nat → Nat) (W : TC) (al x : Nat) : Prop := x ≠ aC g al ∧ 0 < seN g W x al 24 ∧ seN g W x al 24 < 16384 ∧ ∃ z, optI ((fsN g W x al 24).bind (fun b => oeN g b x)) = nI z ∧ z < 14 ∧ bitB (seN g W x al 24) z = true ∧ ∀ j, j < z → bitB (seN g W x al 24) j = false
theorem tt (hv : Vg g) (hW : WOK g W) {al x : Nat} (hx : x < 14) (ha : al < kA g) : (RR g al x = 0 ∧ ¬ wiD g al x < 1000000) ∨ (RR g al x ≠ 0 ∧ shD4 g al x ≤ SS g al x ∧ SS g al x < 1000000 ∧ ((RR g al x = 1 ∧ x = aC g al ∧ wiD g al x < 1000000 ∧ SS g al x = wiD g al x + aL g al ∧ seN g W x al 24 = 0 ∧ fsN g W x al 24 = none) ∨ (RR g al x = 1 ∧ stpF g W al x ∧ wiD g al x < 1000000 ∧ SS g al x = wiD g al x + aL g al) ∨ (RR g al x = 2 ∧ stpF g W al x ∧ ¬ wiD g al x < 1000000 ∧ 1 ≤ aD g al ∧ dst g 0 x x = 0) ∨ (RR g al x = 3 ∧ stpF g W al x ∧ ¬ wiD g al x < 1000000 ∧ dst g 0 x x ≠ 0))) := by
  by_cases h0 : RR g al x = 0
  · rcases tot_cases hv ha hx with h | ⟨h | h | h, -, -⟩
    · exact Or.inl ⟨h0, h.2.1⟩
    · rw [h.1] at h0; cases h0
    · rw [h.1] at h0; cases h0
    · rw [h.1] at h0; cases h0
  · have h1 := (tot_sh hv ha hx).resolve_right h0
    have h2 := (tot_S hv ha hx).mpr h0
    have sc := steps_c hv hW hx ha h0
    have hat : RR g al x ≠ 1 → x ≠ aC g al := fun q p => q (by rw [p] at h0 ⊢; exact tot_at hv ha h0)
    have hst : x ≠ aC g al → stpF g W al x := fun hne => by
      rw [if_neg (fun q => hne q.2)] at sc
      obtain ⟨s0, b, z, s1, s2, s3, s4, s5, s6⟩ := sc
      exact ⟨hne, s0, seN_lt hv 24, z, by rw [s1]; show optI (oeN g b x) = _; rw [s3]; rfl, s4, s5, s6⟩
    refine Or.inr ⟨h0, h1, h2, ?_⟩
    rcases tot_cases hv ha hx with h | ⟨h | h | h, -, -⟩
    · exact absurd h.1 h0
    · by_cases hc : x = aC g al
      · rw [if_pos ⟨h.1, hc⟩] at sc
        exact Or.inl ⟨h.1, hc, h.2.1, h.2.2, sc.1, sc.2⟩
      · exact Or.inr (Or.inl ⟨h.1, hst hc, h.2.1, h.2.2⟩)
    · exact Or.inr (Or.inr (Or.inl ⟨h.1, hst (hat (by rw [h.1]; decide)), h.2.1, h.2.2.1, h.2.2.2.1⟩))
    · exact Or.inr (Or.inr (Or.inr ⟨h.1, hst (hat (by rw [h.1]; decide)), h.2.1, h.2.2.1⟩))
theorem wk_b (hv : Vg g) {al : Nat} : ∀ k x len ps n len' ps', x < 14 → ps < 16384 → wkG g W al k x len ps = some (n, len', ps') → len' ≤ len + 20 * k ∧ ps' < 16384
  | 0, x, len, ps, n, len', ps', hx, hp, h => by cases h
  | k + 1, x, len, ps, n, len', ps', hx, hp, h => by
    have hps : ps ||| 2 ^ x < 16384 := Nat.or_lt_two_pow (n := 14) hp (Nat.pow_lt_pow_right (by decide) hx)
    cases har : arB g W x al with
    | true =>
      rw [wkG_a har] at h
      injection h with h
      injection h with h1 h2
      injection h2 with h2 h3
      subst h1 h2 h3
      exact ⟨by omega, hps⟩
    | false =>
      rw [wkG_m har] at h
      have fc := fsN_c (g := g) (W := W) (x := x) (al := al) 24
      cases hf : fsN g W x al 24 with
      | none => rw [hf] at h; cases h
      | some b =>
        rw [hf] at h fc
        have h : wkG g W al k (oeD g b x) (len + lnC g b 2) (ps ||| 2 ^ x) = some (n, len', ps') := h
        obtain ⟨o1, o2, o3⟩ := stW_oe hv fc.1
        have l20 := (hv.2.2.2.1 b o3).2.2.2.2.1
        have := wk_b hv k (oeD g b x) (len + lnC g b 2) (ps ||| 2 ^ x) n len' ps' o2 hps h
        omega
theorem bit_1 {s k : Nat} (h : bitB s k = true) : s / 2 ^ k % 2 = 1 := by
  unfold bitB at h
  simpa using h
theorem bit_0 {s k : Nat} (h : ¬ bitB s k = true) : s / 2 ^ k % 2 = 0 := by
  have h2 : s / 2 ^ k % 2 < 2 := Nat.mod_lt _ (by decide)
  have : ¬ s / 2 ^ k % 2 = 1 := fun q => h (by unfold bitB; rw [q]; rfl)
  omega
theorem wk_f (hv : Vg g) (hW : WOK g W) {al x : Nat} (hx : x < 14) (ha : al < kA g) (h0 : RR g al x ≠ 0) : match wkG g W al 31 x (alC g al 1) 0 with
    | none => RR g al x ≠ 1
    | some (n, len, ps) => n ≤ 30 ∧ shD4 g al x ≤ len ∧ len ≤ 640 ∧ ps < 16384 ∧ ps / 2 ^ aC g al % 2 = 1 ∧ ps / 2 ^ x % 2 = 1 ∧ (n = 0 ↔ x = aC g al) ∧ (RR g al x = 1 → len = SS g al x) := by
  have h1 : RR g al x = 1 → ∃ n ps', wkG g W al 31 x (alC g al 1) 0 = some (n, alC g al 1 + dst g (aD g al) x (aC g al), ps') := fun q => wk_1 hv hW ha 31 x (alC g al 1) 0 hx q (Nat.lt_of_le_of_lt (cntB_le _ 14) (by decide))
  cases hw : wkG g W al 31 x (alC g al 1) 0 with
  | none =>
    intro q
    obtain ⟨n, ps', e⟩ := h1 q
    rw [hw] at e
    cases e
  | some r =>
    obtain ⟨n, len, ps⟩ := r
    obtain ⟨q1, q2, q3, q4, q5, q6, q7⟩ := wk_any hv hW ha 31 x (alC g al 1) 0 n len ps hx (Nat.le_refl _) hw
    obtain ⟨b1, b2⟩ := wk_b hv 31 x (alC g al 1) 0 n len ps hx (by decide) hw
    have hl20 : alC g al 1 ≤ 20 := (hv.2.2.2.2 al ha).2.1
    refine ⟨q2, ?_, by omega, b2, bit_1 q5, bit_1 q4, ⟨fun q => ((ar_iff hW hx ha).mp (q7 (by omega))).2, fun q => ?_⟩, fun q => ?_⟩
    · show dst g 4 x (aC g al) + alC g al 1 ≤ len
      omega
    · have hr : RR g al x = 1 := by rw [q] at h0 ⊢; exact tot_at hv ha h0
      have har := (ar_iff hW hx ha).mpr ⟨hr, q⟩
      rw [wkG_a har] at hw
      injection hw with hw
      injection hw with e1 e2
      omega
    · obtain ⟨n', ps', e⟩ := h1 q
      rw [hw] at e
      injection e with e
      injection e with e1 e2
      injection e2 with e2 e3
      rcases tot_cases hv ha hx with h | ⟨h | h | h, -, -⟩
      · rw [h.1] at q; cases q
      · rw [e2, h.2.2]
        exact Nat.add_comm _ _
      · rw [h.1] at q; cases q
      · rw [h.1] at q; cases q
theorem wx_n {al x : Nat} {w : Int32} (h : wkG g W al 31 x (alC g al 1) 0 = none) : aWKx g W x al w = -5 := by
  unfold aWKx
  rw [h]
theorem wx_0 {al x n len ps : Nat} (h : wkG g W al 31 x (alC g al 1) 0 = some (n, len, ps)) : aWKx g W x al 0 = nI n := by
  unfold aWKx
  rw [h]
  rfl
theorem wx_1 {al x n len ps : Nat} (h : wkG g W al 31 x (alC g al 1) 0 = some (n, len, ps)) : aWKx g W x al 1 = nI len := by
  unfold aWKx
  rw [h]
  rfl
theorem wx_2 {al x n len ps : Nat} (h : wkG g W al 31 x (alC g al 1) 0 = some (n, len, ps)) : aWKx g W x al 2 = nI ps := by
  unfold aWKx
  rw [h]
  rfl
theorem nFar_t {n : Nat} (h : n < 1000000) : nFar n = nI n := if_pos h
theorem nFar_f {n : Nat} (h : ¬ n < 1000000) : nFar n = -5 := if_neg h
end TF
set_option maxRecDepth 100000 in
set_option maxHeartbeats 4000000 in
theorem m_L_areTotalsSo {l : Launch} {G : GG} {a : Nat} {g : Nat → Nat} {hn : Nat} {F : (Nat → PC) → Prop} {w0 : va_W} {al : Nat} (h0 : OBX G a g hn F w0) (ha : al < kA g) : zX l G yL_areTotalsSo cL_areTotalsSo 14 (some .boolean) 9 210 0 0 [.ref a, .int (nI (al))] (w0) (zQ (.int 1) (OBX G a g hn F)) := by
  obtain ⟨W, h⟩ := h0
  have hv := (OB_v h).1
  have hW := (OB_v h).2.2
  have h24 := hv.1
  have h12 := hv.2.1
  have hc14 : aC g al < 14 := (hv.2.2.2.2 al ha).1
  have hl20 : aL g al ≤ 20 := (hv.2.2.2.2 al ha).2.1
  have hd4 : aD g al < 4 := (hv.2.2.2.2 al ha).2.2
  refine zj_startF RL (by decide +kernel) rfl rfl rfl (bs := [w0]) (by simp) (lo := [some (.ref a), some (.int (nI (al))), none, none, none, none, none, none, none, none, none, none, none, none]) rfl ?_
  intro p0 e0 s0 m0 args0 below0 meth0 c0 A0 C hr hlocks
  refine zj_aload_n (pc := 0) C dL_areTotalsSo_0 rfl ?_
  refine zj_iload_n (pc := 1) C dL_areTotalsSo_1 rfl ?_
  refine zj_iconst (pc := 2) (v := 0) C dL_areTotalsSo_2 (by decide) ?_
  refine zj_callQ (pc := 3) C kv_L_47 (q_AO h) dL_areTotalsSo_3 0 rfl rfl rfl rfl rfl rfl rfl (OB_rec h) rfl (fun u1 hu1 => ?_)
  refine zj_blk (bs' := [u1]) rfl ?_
  refine zj_top (x' := nI (aC g al)) (v_AO hv (k := al) (c := 0) ha (by decide)) ?_
  refine zj_istore_n (pc := 6) C dL_areTotalsSo_6 (Nat.le_of_ble_eq_true rfl) ?_
  refine zj_aload_n (pc := 7) C dL_areTotalsSo_7 rfl ?_
  refine zj_iload_n (pc := 8) C dL_areTotalsSo_8 rfl ?_
  refine zj_iconst (pc := 9) (v := 2) C dL_areTotalsSo_9 (by decide) ?_
  refine zj_callQ (pc := 10) C kv_L_47 (q_AO hu1) dL_areTotalsSo_10 0 rfl rfl rfl rfl rfl rfl rfl (OB_rec hu1) rfl (fun u2 hu2 => ?_)
  refine zj_blk (bs' := [u2]) rfl ?_
  refine zj_top (x' := nI (aD g al)) (v_AO hv (k := al) (c := 2) ha (by decide)) ?_
  refine zj_istore_n (pc := 13) C dL_areTotalsSo_13 (Nat.le_of_ble_eq_true rfl) ?_
  refine zj_iconst (pc := 14) (v := 0) C dL_areTotalsSo_14 (by decide) ?_
  refine zj_istore (pc := 15) C dL_areTotalsSo_15 (Nat.le_of_ble_eq_true rfl) ?_
  refine zj_iconst (pc := 17) (v := 1) C dL_areTotalsSo_17 (by decide) ?_
  refine zj_istore (pc := 18) C dL_areTotalsSo_18 (Nat.le_of_ble_eq_true rfl) ?_
  refine zj_iconst (pc := 20) (v := 0) C dL_areTotalsSo_20 (by decide) ?_
  refine zj_istore (pc := 21) C dL_areTotalsSo_21 (Nat.le_of_ble_eq_true rfl) ?_
  refine zj_keep [true, true, true, true, true, true, true, false, false, false, false, false, false, false] ?_
  refine zj_loopW (σ := Nat × va_W) (fun x => x.1 ≤ 14 ∧ OB G a g hn F W x.2) (fun x => 14 - x.1) (fun x => [x.2]) (fun x => [some (.ref a), some (.int (nI al)), some (.int (nI (aC g al))), some (.int (nI (aD g al))), some (.int (nI (cntB (fun y => !(RR g al y == 0)) x.1))), some (.int 1), some (.int (nI x.1)), none, none, none, none, none, none, none]) ?_ (0, u2) ⟨Nat.zero_le _, hu2⟩
  rintro ⟨xx, v0⟩ ⟨hxx, hv0⟩ ih
  have hxx : xx ≤ 14 := hxx
  refine zj_eq (bs' := [v0]) (lo' := [some (.ref a), some (.int (nI (al))), some (.int (nI (aC g al))), some (.int (nI (aD g al))), some (.int (nI (cntB (fun y => !(RR g al y == 0)) xx))), some (.int (1)), some (.int (nI (xx))), none, none, none, none, none, none, none]) rfl rfl rfl ?_
  refine zj_iload (pc := 23) C dL_areTotalsSo_23 rfl ?_
  refine zj_bipush (pc := 25) (v := 14) C dL_areTotalsSo_25 (by decide) ?_
  refine zj_icmp_ge (pc := 27) 591 C dL_areTotalsSo_27 (by decide) (fun c_27 => ?_) (fun c_27 => ?_)
  · have hxe : xx = 14 := by have := (nI_leI (a := 14) (b := xx) (by omega) (by omega)).mp c_27; omega
    subst hxe
    refine zj_iload (pc := 591) C dL_areTotalsSo_591 rfl ?_
    refine zj_if_eq (pc := 593) 611 C dL_areTotalsSo_593 (by decide) (fun cq_ => absurd cq_ (by decide)) (fun _ => ?_)
    refine zj_iload (pc := 596) C dL_areTotalsSo_596 rfl ?_
    refine zj_aload_n (pc := 598) C dL_areTotalsSo_598 rfl ?_
    refine zj_iload_n (pc := 599) C dL_areTotalsSo_599 rfl ?_
    refine zj_iconst (pc := 600) (v := 3) C dL_areTotalsSo_600 (by decide) ?_
    refine zj_callQ (pc := 601) C kv_L_47 (q_AO hv0) dL_areTotalsSo_601 0 rfl rfl rfl rfl rfl rfl rfl (OB_rec hv0) rfl (fun u3 hu3 => ?_)
    refine zj_blk (bs' := [u3]) rfl ?_
    refine zj_top (x' := nI (cntB (fun y => !(RR g al y == 0)) 14)) (v_AO3 hv hW ha) ?_
    refine zj_icmp_ne (pc := 604) 611 C dL_areTotalsSo_604 (by decide) (fun cq_ => absurd rfl cq_) (fun _ => ?_)
    refine zj_iconst (pc := 607) (v := 1) C dL_areTotalsSo_607 (by decide) ?_
    refine zj_goto (pc := 608) (tgt := 612) C dL_areTotalsSo_608 (by decide) ?_
    refine zj_zret C hr hlocks dL_areTotalsSo_612 (Or.inr rfl) ⟨rfl, ?_⟩
    rw [fl1]
    exact OB_X hu3
  · have hx : xx < 14 := by have := mt (nI_leI (a := 14) (b := xx) (by omega) (by omega)).mpr c_27; omega
    have hds16 := dsV_lt (dst g) xx
    rcases tt hv hW hx ha with ⟨hr, hwi⟩ | ⟨hr0, hsh, hS, h1a | h1b | h2 | h3⟩
    · refine zj_aload_n (pc := 30) C dL_areTotalsSo_30 rfl ?_
      refine zj_iload (pc := 31) C dL_areTotalsSo_31 rfl ?_
      refine zj_iload_n (pc := 33) C dL_areTotalsSo_33 rfl ?_
      refine zj_iconst (pc := 34) (v := 0) C dL_areTotalsSo_34 (by decide) ?_
      refine zj_callQ (pc := 35) C kv_L_53 (q_TO hv0) dL_areTotalsSo_35 0 rfl rfl rfl rfl rfl rfl rfl (OB_rec hv0) rfl (fun u4 hu4 => ?_)
      refine zj_blk (bs' := [u4]) rfl ?_
      refine zj_top (x' := (-5 : Int32)) (v_TOn hv hW (c := 0) hx ha (by decide) hr) ?_
      refine zj_istore (pc := 38) C dL_areTotalsSo_38 (Nat.le_of_ble_eq_true rfl) ?_
      refine zj_aload_n (pc := 40) C dL_areTotalsSo_40 rfl ?_
      refine zj_iload (pc := 41) C dL_areTotalsSo_41 rfl ?_
      refine zj_iload_n (pc := 43) C dL_areTotalsSo_43 rfl ?_
      refine zj_iconst (pc := 44) (v := 1) C dL_areTotalsSo_44 (by decide) ?_
      refine zj_callQ (pc := 45) C kv_L_53 (q_TO hu4) dL_areTotalsSo_45 0 rfl rfl rfl rfl rfl rfl rfl (OB_rec hu4) rfl (fun u5 hu5 => ?_)
      refine zj_blk (bs' := [u5]) rfl ?_
      refine zj_top (x' := (-5 : Int32)) (v_TOn hv hW (c := 1) hx ha (by decide) hr) ?_
      refine zj_istore (pc := 48) C dL_areTotalsSo_48 (Nat.le_of_ble_eq_true rfl) ?_
      refine zj_aload_n (pc := 50) C dL_areTotalsSo_50 rfl ?_
      refine zj_iload (pc := 51) C dL_areTotalsSo_51 rfl ?_
      refine zj_iload_n (pc := 53) C dL_areTotalsSo_53 rfl ?_
      refine zj_iconst (pc := 54) (v := 3) C dL_areTotalsSo_54 (by decide) ?_
      refine zj_callQ (pc := 55) C kv_L_53 (q_TO hu5) dL_areTotalsSo_55 0 rfl rfl rfl rfl rfl rfl rfl (OB_rec hu5) rfl (fun u6 hu6 => ?_)
      refine zj_blk (bs' := [u6]) rfl ?_
      refine zj_top (x' := (-5 : Int32)) (v_TOn hv hW (c := 3) hx ha (by decide) hr) ?_
      refine zj_istore (pc := 58) C dL_areTotalsSo_58 (Nat.le_of_ble_eq_true rfl) ?_
      refine zj_aload_n (pc := 60) C dL_areTotalsSo_60 rfl ?_
      refine zj_iload_n (pc := 61) C dL_areTotalsSo_61 rfl ?_
      refine zj_iload (pc := 62) C dL_areTotalsSo_62 rfl ?_
      refine zj_iload_n (pc := 64) C dL_areTotalsSo_64 rfl ?_
      refine zj_callQ (pc := 65) C kv_L_50 (q_WI hu6) dL_areTotalsSo_65 0 rfl rfl rfl rfl rfl rfl rfl (OB_rec hu6) rfl (fun u7 hu7 => ?_)
      refine zj_blk (bs' := [u7]) rfl ?_
      refine zj_top (x' := (-5 : Int32)) ((v_WI hW hd4 hx hc14).trans (nFar_f hwi)) ?_
      refine zj_istore (pc := 68) C dL_areTotalsSo_68 (Nat.le_of_ble_eq_true rfl) ?_
      refine zj_aload_n (pc := 70) C dL_areTotalsSo_70 rfl ?_
      refine zj_iload (pc := 71) C dL_areTotalsSo_71 rfl ?_
      refine zj_iload_n (pc := 73) C dL_areTotalsSo_73 rfl ?_
      refine zj_callQ (pc := 74) C kv_L_56 (q_SH hu7) dL_areTotalsSo_74 0 rfl rfl rfl rfl rfl rfl rfl (OB_rec hu7) rfl (fun u8 hu8 => ?_)
      refine zj_blk (bs' := [u8]) rfl ?_
      refine zj_istore (pc := 77) C dL_areTotalsSo_77 (Nat.le_of_ble_eq_true rfl) ?_
      refine zj_aload_n (pc := 79) C dL_areTotalsSo_79 rfl ?_
      refine zj_iload (pc := 80) C dL_areTotalsSo_80 rfl ?_
      refine zj_iconst (pc := 82) (v := 1) C dL_areTotalsSo_82 (by decide) ?_
      refine zj_callQ (pc := 83) C kv_L_41 (q_CO hu8) dL_areTotalsSo_83 0 rfl rfl rfl rfl rfl rfl rfl (OB_rec hu8) rfl (fun u9 hu9 => ?_)
      refine zj_blk (bs' := [u9]) rfl ?_
      refine zj_top (x' := nI (dsV (dst g) xx)) (v_CO1 hW hx) ?_
      refine zj_iconst (pc := 86) (v := 1) C dL_areTotalsSo_86 (by decide) ?_
      refine zj_iand (pc := 87) C dL_areTotalsSo_87 ?_
      refine zj_top (x' := nI (dsV (dst g) xx % 2)) (and_1 ⟨dsV (dst g) xx, hds16⟩) ?_
      refine zj_iconst (pc := 88) (v := 1) C dL_areTotalsSo_88 (by decide) ?_
      refine zm_icmp_ne_0 (pc := 89) C dL_areTotalsSo_89 dL_areTotalsSo_92 dL_areTotalsSo_93 dL_areTotalsSo_96 ?_
      refine zj_istore (pc := 97) C dL_areTotalsSo_97 (Nat.le_of_ble_eq_true rfl) ?_
      refine zj_iload (pc := 99) C dL_areTotalsSo_99 rfl ?_
      refine zj_iload (pc := 101) C dL_areTotalsSo_101 rfl ?_
      refine zj_if_lt (pc := 103) 110 C dL_areTotalsSo_103 (by decide) (fun _ => ?_) (fun cq_ => absurd (by decide) cq_)
      refine zj_iconst (pc := 110) (v := 0) C dL_areTotalsSo_110 (by decide) ?_
      refine zj_iadd (pc := 111) C dL_areTotalsSo_111 ?_
      refine zj_top (x' := nI (cntB (fun y => !(RR g al y == 0)) (xx + 1))) (by rw [cntB_f (p := fun y => !(RR g al y == 0)) (by simp [hr])]; exact Int32.add_zero _) ?_
      refine zj_istore (pc := 112) C dL_areTotalsSo_112 (Nat.le_of_ble_eq_true rfl) ?_
      refine zj_iload (pc := 114) C dL_areTotalsSo_114 rfl ?_
      refine zj_if_ge (pc := 116) 186 C dL_areTotalsSo_116 (by decide) (fun cq_ => absurd cq_ (by decide)) (fun _ => ?_)
      refine zj_iload (pc := 119) C dL_areTotalsSo_119 rfl ?_
      refine zj_if_eq (pc := 121) 180 C dL_areTotalsSo_121 (by decide) (fun cq_ => absurd cq_ (by decide)) (fun _ => ?_)
      refine zj_iload (pc := 124) C dL_areTotalsSo_124 rfl ?_
      refine zj_bipush (pc := 126) (v := (-5)) C dL_areTotalsSo_126 (by decide) ?_
      refine zj_icmp_ne (pc := 128) 180 C dL_areTotalsSo_128 (by decide) (fun cq_ => absurd (by decide) cq_) (fun _ => ?_)
      refine zj_iload (pc := 131) C dL_areTotalsSo_131 rfl ?_
      refine zj_bipush (pc := 133) (v := (-5)) C dL_areTotalsSo_133 (by decide) ?_
      refine zj_icmp_ne (pc := 135) 180 C dL_areTotalsSo_135 (by decide) (fun cq_ => absurd (by decide) cq_) (fun _ => ?_)
      refine zj_iload (pc := 138) C dL_areTotalsSo_138 rfl ?_
      refine zj_bipush (pc := 140) (v := (-5)) C dL_areTotalsSo_140 (by decide) ?_
      refine zj_icmp_ne (pc := 142) 180 C dL_areTotalsSo_142 (by decide) (fun cq_ => absurd (by decide) cq_) (fun _ => ?_)
      refine zj_iload (pc := 145) C dL_areTotalsSo_145 rfl ?_
      refine zj_if_ge (pc := 147) 180 C dL_areTotalsSo_147 (by decide) (fun cq_ => absurd cq_ (by decide)) (fun _ => ?_)
      refine zj_aload_n (pc := 150) C dL_areTotalsSo_150 rfl ?_
      refine zj_iload (pc := 151) C dL_areTotalsSo_151 rfl ?_
      refine zj_iload_n (pc := 153) C dL_areTotalsSo_153 rfl ?_
      refine zj_iconst (pc := 154) (v := 0) C dL_areTotalsSo_154 (by decide) ?_
      refine zj_callQ (pc := 155) C kv_L_59 (q_WK hu9) dL_areTotalsSo_155 0 rfl rfl rfl rfl rfl rfl rfl (OB_rec hu9) rfl (fun u10 hu10 => ?_)
      refine zj_blk (bs' := [u10]) rfl ?_
      refine zj_top (x' := (-5 : Int32)) ((v_WK hv (c := 0) hx ha (by decide)).trans (wx_n (wk_none hW hx ha hr 31 _ 0))) ?_
      refine zj_bipush (pc := 158) (v := (-5)) C dL_areTotalsSo_158 (by decide) ?_
      refine zj_icmp_ne (pc := 160) 180 C dL_areTotalsSo_160 (by decide) (fun cq_ => absurd (by decide) cq_) (fun _ => ?_)
      refine zj_aload_n (pc := 163) C dL_areTotalsSo_163 rfl ?_
      refine zj_iload (pc := 164) C dL_areTotalsSo_164 rfl ?_
      refine zj_iload_n (pc := 166) C dL_areTotalsSo_166 rfl ?_
      refine zj_callQ (pc := 167) C kv_L_62 (q_ST hu10) dL_areTotalsSo_167 0 rfl rfl rfl rfl rfl rfl rfl (OB_rec hu10) rfl (fun u11 hu11 => ?_)
      refine zj_blk (bs' := [u11]) rfl ?_
      rw [v_STn hv hW hx ha hr]
      refine zj_ldcf (pc := 170) (v := 3212836864) C dL_areTotalsSo_170 aq_620 ?_
      refine zj_fcmpl (pc := 172) C dL_areTotalsSo_172 ?_
      refine zj_top (x' := (0 : Int32)) cmp_m1 ?_
      refine zj_if_ne (pc := 173) 180 C dL_areTotalsSo_173 (by decide) (fun cq_ => absurd (by decide) cq_) (fun _ => ?_)
      refine zj_iconst (pc := 176) (v := 1) C dL_areTotalsSo_176 (by decide) ?_
      refine zj_goto (pc := 177) (tgt := 181) C dL_areTotalsSo_177 (by decide) ?_
      refine zj_istore (pc := 181) C dL_areTotalsSo_181 (Nat.le_of_ble_eq_true rfl) ?_
      refine zj_goto (pc := 183) (tgt := 585) C dL_areTotalsSo_183 (by decide) ?_
      refine zj_iinc (pc := 585) (v := nI (xx + 1)) C dL_areTotalsSo_585 rfl (nI_1 _) ?_
      refine zj_goto (pc := 588) (tgt := 23) C dL_areTotalsSo_588 (by decide) ?_
      refine zj_keep [true, true, true, true, true, true, true, false, false, false, false, false, false, false] ?_
      exact ih (xx + 1, u11) ⟨by show xx + 1 ≤ 14; omega, hu11⟩ (by show 14 - (xx + 1) < 14 - xx; omega)
    · obtain ⟨hr, hxc, hwi, hSe, hse, hfs⟩ := h1a
      refine zj_aload_n (pc := 30) C dL_areTotalsSo_30 rfl ?_
      refine zj_iload (pc := 31) C dL_areTotalsSo_31 rfl ?_
      refine zj_iload_n (pc := 33) C dL_areTotalsSo_33 rfl ?_
      refine zj_iconst (pc := 34) (v := 0) C dL_areTotalsSo_34 (by decide) ?_
      refine zj_callQ (pc := 35) C kv_L_53 (q_TO hv0) dL_areTotalsSo_35 0 rfl rfl rfl rfl rfl rfl rfl (OB_rec hv0) rfl (fun u12 hu12 => ?_)
      refine zj_blk (bs' := [u12]) rfl ?_
      refine zj_top (x' := nI (SS g al xx)) (v_TO0 hv hW hx ha hr0) ?_
      refine zj_istore (pc := 38) C dL_areTotalsSo_38 (Nat.le_of_ble_eq_true rfl) ?_
      refine zj_aload_n (pc := 40) C dL_areTotalsSo_40 rfl ?_
      refine zj_iload (pc := 41) C dL_areTotalsSo_41 rfl ?_
      refine zj_iload_n (pc := 43) C dL_areTotalsSo_43 rfl ?_
      refine zj_iconst (pc := 44) (v := 1) C dL_areTotalsSo_44 (by decide) ?_
      refine zj_callQ (pc := 45) C kv_L_53 (q_TO hu12) dL_areTotalsSo_45 0 rfl rfl rfl rfl rfl rfl rfl (OB_rec hu12) rfl (fun u13 hu13 => ?_)
      refine zj_blk (bs' := [u13]) rfl ?_
      refine zj_top (x' := (1 : Int32)) ((v_TO1 hv hW hx ha hr0).trans (by rw [hr]; rfl)) ?_
      refine zj_istore (pc := 48) C dL_areTotalsSo_48 (Nat.le_of_ble_eq_true rfl) ?_
      refine zj_aload_n (pc := 50) C dL_areTotalsSo_50 rfl ?_
      refine zj_iload (pc := 51) C dL_areTotalsSo_51 rfl ?_
      refine zj_iload_n (pc := 53) C dL_areTotalsSo_53 rfl ?_
      refine zj_iconst (pc := 54) (v := 3) C dL_areTotalsSo_54 (by decide) ?_
      refine zj_callQ (pc := 55) C kv_L_53 (q_TO hu13) dL_areTotalsSo_55 0 rfl rfl rfl rfl rfl rfl rfl (OB_rec hu13) rfl (fun u14 hu14 => ?_)
      refine zj_blk (bs' := [u14]) rfl ?_
      refine zj_top (x' := (0 : Int32)) ((v_TO3 hv hW hx ha hr0).trans (by rw [hse]; rfl)) ?_
      refine zj_istore (pc := 58) C dL_areTotalsSo_58 (Nat.le_of_ble_eq_true rfl) ?_
      refine zj_aload_n (pc := 60) C dL_areTotalsSo_60 rfl ?_
      refine zj_iload_n (pc := 61) C dL_areTotalsSo_61 rfl ?_
      refine zj_iload (pc := 62) C dL_areTotalsSo_62 rfl ?_
      refine zj_iload_n (pc := 64) C dL_areTotalsSo_64 rfl ?_
      refine zj_callQ (pc := 65) C kv_L_50 (q_WI hu14) dL_areTotalsSo_65 0 rfl rfl rfl rfl rfl rfl rfl (OB_rec hu14) rfl (fun u15 hu15 => ?_)
      refine zj_blk (bs' := [u15]) rfl ?_
      refine zj_top (x' := nI (wiD g al xx)) ((v_WI hW hd4 hx hc14).trans (nFar_t hwi)) ?_
      refine zj_istore (pc := 68) C dL_areTotalsSo_68 (Nat.le_of_ble_eq_true rfl) ?_
      refine zj_aload_n (pc := 70) C dL_areTotalsSo_70 rfl ?_
      refine zj_iload (pc := 71) C dL_areTotalsSo_71 rfl ?_
      refine zj_iload_n (pc := 73) C dL_areTotalsSo_73 rfl ?_
      refine zj_callQ (pc := 74) C kv_L_56 (q_SH hu15) dL_areTotalsSo_74 0 rfl rfl rfl rfl rfl rfl rfl (OB_rec hu15) rfl (fun u16 hu16 => ?_)
      refine zj_blk (bs' := [u16]) rfl ?_
      refine zj_top (x' := nI (shD4 g al xx)) ((v_SH hv hW hx ha).trans (nFar_t (by show shD4 g al xx < 1000000; omega))) ?_
      refine zj_istore (pc := 77) C dL_areTotalsSo_77 (Nat.le_of_ble_eq_true rfl) ?_
      refine zj_aload_n (pc := 79) C dL_areTotalsSo_79 rfl ?_
      refine zj_iload (pc := 80) C dL_areTotalsSo_80 rfl ?_
      refine zj_iconst (pc := 82) (v := 1) C dL_areTotalsSo_82 (by decide) ?_
      refine zj_callQ (pc := 83) C kv_L_41 (q_CO hu16) dL_areTotalsSo_83 0 rfl rfl rfl rfl rfl rfl rfl (OB_rec hu16) rfl (fun u17 hu17 => ?_)
      refine zj_blk (bs' := [u17]) rfl ?_
      refine zj_top (x' := nI (dsV (dst g) xx)) (v_CO1 hW hx) ?_
      refine zj_iconst (pc := 86) (v := 1) C dL_areTotalsSo_86 (by decide) ?_
      refine zj_iand (pc := 87) C dL_areTotalsSo_87 ?_
      refine zj_top (x' := nI (dsV (dst g) xx % 2)) (and_1 ⟨dsV (dst g) xx, hds16⟩) ?_
      refine zj_iconst (pc := 88) (v := 1) C dL_areTotalsSo_88 (by decide) ?_
      refine zm_icmp_ne_0 (pc := 89) C dL_areTotalsSo_89 dL_areTotalsSo_92 dL_areTotalsSo_93 dL_areTotalsSo_96 ?_
      refine zj_istore (pc := 97) C dL_areTotalsSo_97 (Nat.le_of_ble_eq_true rfl) ?_
      refine zj_iload (pc := 99) C dL_areTotalsSo_99 rfl ?_
      refine zj_iload (pc := 101) C dL_areTotalsSo_101 rfl ?_
      refine zj_if_lt (pc := 103) 110 C dL_areTotalsSo_103 (by decide) (fun cq_ => absurd cq_ (mt (nI_ltI (a := SS g al xx) (b := 0) (by omega) (by omega)).mp (by omega))) (fun _ => ?_)
      refine zj_iconst (pc := 106) (v := 1) C dL_areTotalsSo_106 (by decide) ?_
      refine zj_goto (pc := 107) (tgt := 111) C dL_areTotalsSo_107 (by decide) ?_
      refine zj_iadd (pc := 111) C dL_areTotalsSo_111 ?_
      refine zj_top (x' := nI (cntB (fun y => !(RR g al y == 0)) (xx + 1))) (by rw [cntB_t (p := fun y => !(RR g al y == 0)) (by simp [hr])]; exact nI_1 _) ?_
      refine zj_istore (pc := 112) C dL_areTotalsSo_112 (Nat.le_of_ble_eq_true rfl) ?_
      refine zj_iload (pc := 114) C dL_areTotalsSo_114 rfl ?_
      refine zj_if_ge (pc := 116) 186 C dL_areTotalsSo_116 (by decide) (fun _ => ?_) (fun cq_ => absurd ((nI_leI (a := 0) (b := SS g al xx) (by omega) (by omega)).mpr (by omega)) cq_)
      refine zj_iload (pc := 186) C dL_areTotalsSo_186 rfl ?_
      refine zj_if_eq (pc := 188) 346 C dL_areTotalsSo_188 (by decide) (fun cq_ => absurd cq_ (by decide)) (fun _ => ?_)
      refine zj_iload (pc := 191) C dL_areTotalsSo_191 rfl ?_
      refine zj_iconst (pc := 193) (v := 1) C dL_areTotalsSo_193 (by decide) ?_
      refine zj_icmp_ne (pc := 194) 201 C dL_areTotalsSo_194 (by decide) (fun cq_ => absurd (by decide) cq_) (fun _ => ?_)
      refine zj_iconst (pc := 197) (v := 1) C dL_areTotalsSo_197 (by decide) ?_
      refine zj_goto (pc := 198) (tgt := 202) C dL_areTotalsSo_198 (by decide) ?_
      refine zj_iload (pc := 202) C dL_areTotalsSo_202 rfl ?_
      refine zj_if_lt (pc := 204) 211 C dL_areTotalsSo_204 (by decide) (fun cq_ => absurd cq_ (mt (nI_ltI (a := wiD g al xx) (b := 0) (by omega) (by omega)).mp (by omega))) (fun _ => ?_)
      refine zj_iconst (pc := 207) (v := 1) C dL_areTotalsSo_207 (by decide) ?_
      refine zj_goto (pc := 208) (tgt := 212) C dL_areTotalsSo_208 (by decide) ?_
      refine zj_icmp_ne (pc := 212) 346 C dL_areTotalsSo_212 (by decide) (fun cq_ => absurd (by decide) cq_) (fun _ => ?_)
      refine zj_iload (pc := 215) C dL_areTotalsSo_215 rfl ?_
      refine zj_iconst (pc := 217) (v := 1) C dL_areTotalsSo_217 (by decide) ?_
      refine zj_icmp_ne (pc := 218) 235 C dL_areTotalsSo_218 (by decide) (fun cq_ => absurd (by decide) cq_) (fun _ => ?_)
      refine zj_iload (pc := 221) C dL_areTotalsSo_221 rfl ?_
      refine zj_iload (pc := 223) C dL_areTotalsSo_223 rfl ?_
      refine zj_aload_n (pc := 225) C dL_areTotalsSo_225 rfl ?_
      refine zj_iload_n (pc := 226) C dL_areTotalsSo_226 rfl ?_
      refine zj_iconst (pc := 227) (v := 1) C dL_areTotalsSo_227 (by decide) ?_
      refine zj_callQ (pc := 228) C kv_L_47 (q_AO hu17) dL_areTotalsSo_228 0 rfl rfl rfl rfl rfl rfl rfl (OB_rec hu17) rfl (fun u18 hu18 => ?_)
      refine zj_blk (bs' := [u18]) rfl ?_
      refine zj_top (x' := nI (aL g al)) (v_AO hv (k := al) (c := 1) ha (by decide)) ?_
      refine zj_iadd (pc := 231) C dL_areTotalsSo_231 ?_
      refine zj_top (x' := nI (wiD g al xx + aL g al)) (nI_add (wiD g al xx) (aL g al)) ?_
      refine zj_icmp_ne (pc := 232) 346 C dL_areTotalsSo_232 (by decide) (fun cq_ => absurd ((nI_eq (a := SS g al xx) (b := wiD g al xx + aL g al) (by omega) (by omega)).mpr (by omega)) cq_) (fun _ => ?_)
      refine zj_iload (pc := 235) C dL_areTotalsSo_235 rfl ?_
      refine zj_iconst (pc := 237) (v := 1) C dL_areTotalsSo_237 (by decide) ?_
      refine zj_icmp_eq (pc := 238) 257 C dL_areTotalsSo_238 (by decide) (fun _ => ?_) (fun cq_ => absurd (by decide) cq_)
      refine zj_iload (pc := 257) C dL_areTotalsSo_257 rfl ?_
      refine zj_iconst (pc := 259) (v := 2) C dL_areTotalsSo_259 (by decide) ?_
      refine zj_icmp_ne (pc := 260) 267 C dL_areTotalsSo_260 (by decide) (fun _ => ?_) (fun cq_ => absurd cq_ (by decide))
      refine zj_iload (pc := 267) C dL_areTotalsSo_267 rfl ?_
      refine zj_if_lt (pc := 269) 346 C dL_areTotalsSo_269 (by decide) (fun cq_ => absurd cq_ (mt (nI_ltI (a := shD4 g al xx) (b := 0) (by omega) (by omega)).mp (by omega))) (fun _ => ?_)
      refine zj_iload (pc := 272) C dL_areTotalsSo_272 rfl ?_
      refine zj_iload (pc := 274) C dL_areTotalsSo_274 rfl ?_
      refine zj_icmp_lt (pc := 276) 346 C dL_areTotalsSo_276 (by decide) (fun cq_ => absurd cq_ (mt (nI_ltI (a := SS g al xx) (b := shD4 g al xx) (by omega) (by omega)).mp (by omega))) (fun _ => ?_)
      refine zj_aload_n (pc := 279) C dL_areTotalsSo_279 rfl ?_
      refine zj_iload (pc := 280) C dL_areTotalsSo_280 rfl ?_
      refine zj_iload_n (pc := 282) C dL_areTotalsSo_282 rfl ?_
      refine zj_callQ (pc := 283) C kv_L_62 (q_ST hu18) dL_areTotalsSo_283 0 rfl rfl rfl rfl rfl rfl rfl (OB_rec hu18) rfl (fun u19 hu19 => ?_)
      refine zj_blk (bs' := [u19]) rfl ?_
      refine zj_fconst1 (pc := 286) C dL_areTotalsSo_286 ?_
      refine zj_fcmpl (pc := 287) C dL_areTotalsSo_287 ?_
      refine zj_if_lt (pc := 288) 346 C dL_areTotalsSo_288 (by decide) (fun cq_ => absurd cq_ (v_STs hv hW hx ha hr0)) (fun _ => ?_)
      refine zj_iload (pc := 291) C dL_areTotalsSo_291 rfl ?_
      refine zj_iconst (pc := 293) (v := 1) C dL_areTotalsSo_293 (by decide) ?_
      refine zj_icmp_ne (pc := 294) 311 C dL_areTotalsSo_294 (by decide) (fun cq_ => absurd (by decide) cq_) (fun _ => ?_)
      refine zj_iload (pc := 297) C dL_areTotalsSo_297 rfl ?_
      refine zj_iload_n (pc := 299) C dL_areTotalsSo_299 rfl ?_
      refine zj_icmp_ne (pc := 300) 311 C dL_areTotalsSo_300 (by decide) (fun cq_ => absurd ((nI_eq (a := xx) (b := aC g al) (by omega) (by omega)).mpr (by omega)) cq_) (fun _ => ?_)
      refine zj_iload (pc := 303) C dL_areTotalsSo_303 rfl ?_
      refine zj_if_ne (pc := 305) 346 C dL_areTotalsSo_305 (by decide) (fun cq_ => absurd (by decide) cq_) (fun _ => ?_)
      refine zj_goto (pc := 308) (tgt := 316) C dL_areTotalsSo_308 (by decide) ?_
      refine zj_aload_n (pc := 316) C dL_areTotalsSo_316 rfl ?_
      refine zj_iload (pc := 317) C dL_areTotalsSo_317 rfl ?_
      refine zj_iload_n (pc := 319) C dL_areTotalsSo_319 rfl ?_
      refine zj_iconst (pc := 320) (v := 2) C dL_areTotalsSo_320 (by decide) ?_
      refine zj_callQ (pc := 321) C kv_L_53 (q_TO hu19) dL_areTotalsSo_321 0 rfl rfl rfl rfl rfl rfl rfl (OB_rec hu19) rfl (fun u20 hu20 => ?_)
      refine zj_blk (bs' := [u20]) rfl ?_
      refine zj_top (x' := (-5 : Int32)) ((v_TO2 hv hW hx ha hr0).trans (by rw [hfs]; rfl)) ?_
      refine zj_iload (pc := 324) C dL_areTotalsSo_324 rfl ?_
      refine zj_if_ne (pc := 326) 334 C dL_areTotalsSo_326 (by decide) (fun cq_ => absurd (by decide) cq_) (fun _ => ?_)
      refine zj_bipush (pc := 329) (v := (-5)) C dL_areTotalsSo_329 (by decide) ?_
      refine zj_goto (pc := 331) (tgt := 339) C dL_areTotalsSo_331 (by decide) ?_
      refine zj_icmp_ne (pc := 339) 346 C dL_areTotalsSo_339 (by decide) (fun cq_ => absurd (by decide) cq_) (fun _ => ?_)
      refine zj_iconst (pc := 342) (v := 1) C dL_areTotalsSo_342 (by decide) ?_
      refine zj_goto (pc := 343) (tgt := 347) C dL_areTotalsSo_343 (by decide) ?_
      refine zj_istore (pc := 347) C dL_areTotalsSo_347 (Nat.le_of_ble_eq_true rfl) ?_
      refine zj_iconst (pc := 349) (v := 0) C dL_areTotalsSo_349 (by decide) ?_
      refine zj_istore (pc := 350) C dL_areTotalsSo_350 (Nat.le_of_ble_eq_true rfl) ?_
      refine zj_keep [true, true, true, true, true, true, true, true, true, true, true, true, false, true] ?_
      refine zj_loopW (σ := Nat × va_W) (fun x => x.1 ≤ 14 ∧ OB G a g hn F W x.2) (fun x => 14 - x.1) (fun x => [x.2]) (fun x => [some (.ref a), some (.int (nI (al))), some (.int (nI (aC g al))), some (.int (nI (aD g al))), some (.int (nI (cntB (fun y => !(RR g al y == 0)) (xx + 1)))), some (.int (1)), some (.int (nI (xx))), some (.int (nI (SS g al xx))), some (.int (1)), some (.int (0)), some (.int (nI (wiD g al xx))), some (.int (nI (shD4 g al xx))), none, some (.int (nI (x.1)))]) ?_ (0, u20) ⟨Nat.zero_le _, hu20⟩
      rintro ⟨t, y0⟩ ⟨ht, hy0⟩ iht
      have ht : t ≤ 14 := ht
      refine zj_eq (bs' := [y0]) (lo' := [some (.ref a), some (.int (nI (al))), some (.int (nI (aC g al))), some (.int (nI (aD g al))), some (.int (nI (cntB (fun y => !(RR g al y == 0)) (xx + 1)))), some (.int (1)), some (.int (nI (xx))), some (.int (nI (SS g al xx))), some (.int (1)), some (.int (0)), some (.int (nI (wiD g al xx))), some (.int (nI (shD4 g al xx))), none, some (.int (nI (t)))]) rfl rfl rfl ?_
      refine zj_iload (pc := 352) C dL_areTotalsSo_352 rfl ?_
      refine zj_bipush (pc := 354) (v := 14) C dL_areTotalsSo_354 (by decide) ?_
      refine zj_icmp_ge (pc := 356) 450 C dL_areTotalsSo_356 (by decide) (fun c_356 => ?_) (fun c_356 => ?_)
      · have wf := wk_f hv hW hx ha hr0
        rcases hwk : wkG g W al 31 xx (alC g al 1) 0 with _ | ⟨n1, len, ps⟩
        · rw [hwk] at wf
          exact absurd hr wf
        · rw [hwk] at wf
          obtain ⟨w1, w2, w3, w4, w5, w6, w7, w8⟩ := wf
          refine zj_aload_n (pc := 450) C dL_areTotalsSo_450 rfl ?_
          refine zj_iload (pc := 451) C dL_areTotalsSo_451 rfl ?_
          refine zj_iload_n (pc := 453) C dL_areTotalsSo_453 rfl ?_
          refine zj_iconst (pc := 454) (v := 0) C dL_areTotalsSo_454 (by decide) ?_
          refine zj_callQ (pc := 455) C kv_L_59 (q_WK hy0) dL_areTotalsSo_455 0 rfl rfl rfl rfl rfl rfl rfl (OB_rec hy0) rfl (fun u21 hu21 => ?_)
          refine zj_blk (bs' := [u21]) rfl ?_
          refine zj_top (x' := nI (n1)) ((v_WK hv (c := 0) hx ha (by decide)).trans (wx_0 hwk)) ?_
          refine zj_istore (pc := 458) C dL_areTotalsSo_458 (Nat.le_of_ble_eq_true rfl) ?_
          refine zj_iload (pc := 460) C dL_areTotalsSo_460 rfl ?_
          refine zj_if_eq (pc := 462) 582 C dL_areTotalsSo_462 (by decide) (fun cq_ => absurd cq_ (by decide)) (fun _ => ?_)
          refine zj_iload (pc := 465) C dL_areTotalsSo_465 rfl ?_
          refine zj_bipush (pc := 467) (v := (-5)) C dL_areTotalsSo_467 (by decide) ?_
          refine zj_icmp_eq (pc := 469) 554 C dL_areTotalsSo_469 (by decide) (fun cq_ => absurd cq_ (nI_ne5 (a := n1) (by omega))) (fun _ => ?_)
          refine zj_iload (pc := 472) C dL_areTotalsSo_472 rfl ?_
          refine zj_if_lt (pc := 474) 582 C dL_areTotalsSo_474 (by decide) (fun cq_ => absurd cq_ (mt (nI_ltI (a := n1) (b := 0) (by omega) (by omega)).mp (by omega))) (fun _ => ?_)
          refine zj_iload (pc := 477) C dL_areTotalsSo_477 rfl ?_
          refine zj_bipush (pc := 479) (v := 30) C dL_areTotalsSo_479 (by decide) ?_
          refine zj_icmp_gt (pc := 481) 582 C dL_areTotalsSo_481 (by decide) (fun cq_ => absurd cq_ (mt (nI_ltI (a := 30) (b := n1) (by omega) (by omega)).mp (by omega))) (fun _ => ?_)
          refine zj_aload_n (pc := 484) C dL_areTotalsSo_484 rfl ?_
          refine zj_iload (pc := 485) C dL_areTotalsSo_485 rfl ?_
          refine zj_iload_n (pc := 487) C dL_areTotalsSo_487 rfl ?_
          refine zj_iconst (pc := 488) (v := 1) C dL_areTotalsSo_488 (by decide) ?_
          refine zj_callQ (pc := 489) C kv_L_59 (q_WK hu21) dL_areTotalsSo_489 0 rfl rfl rfl rfl rfl rfl rfl (OB_rec hu21) rfl (fun u22 hu22 => ?_)
          refine zj_blk (bs' := [u22]) rfl ?_
          refine zj_top (x' := nI (len)) ((v_WK hv (c := 1) hx ha (by decide)).trans (wx_1 hwk)) ?_
          refine zj_iload (pc := 492) C dL_areTotalsSo_492 rfl ?_
          refine zj_icmp_lt (pc := 494) 582 C dL_areTotalsSo_494 (by decide) (fun cq_ => absurd cq_ (mt (nI_ltI (a := len) (b := shD4 g al xx) (by omega) (by omega)).mp (by omega))) (fun _ => ?_)
          refine zj_aload_n (pc := 497) C dL_areTotalsSo_497 rfl ?_
          refine zj_iload (pc := 498) C dL_areTotalsSo_498 rfl ?_
          refine zj_iload_n (pc := 500) C dL_areTotalsSo_500 rfl ?_
          refine zj_iconst (pc := 501) (v := 2) C dL_areTotalsSo_501 (by decide) ?_
          refine zj_callQ (pc := 502) C kv_L_59 (q_WK hu22) dL_areTotalsSo_502 0 rfl rfl rfl rfl rfl rfl rfl (OB_rec hu22) rfl (fun u23 hu23 => ?_)
          refine zj_blk (bs' := [u23]) rfl ?_
          refine zj_top (x' := nI (ps)) ((v_WK hv (c := 2) hx ha (by decide)).trans (wx_2 hwk)) ?_
          refine zj_iload_n (pc := 505) C dL_areTotalsSo_505 rfl ?_
          refine zj_ishr (pc := 506) C dL_areTotalsSo_506 ?_
          refine zj_iconst (pc := 507) (v := 1) C dL_areTotalsSo_507 (by decide) ?_
          refine zj_iand (pc := 508) C dL_areTotalsSo_508 ?_
          refine zj_top (x' := nI (ps / 2 ^ aC g al % 2)) (nI_bit (by omega) (by omega)) ?_
          refine zj_iconst (pc := 509) (v := 1) C dL_areTotalsSo_509 (by decide) ?_
          refine zj_icmp_ne (pc := 510) 582 C dL_areTotalsSo_510 (by decide) (fun cq_ => absurd ((nI_eq (a := ps / 2 ^ aC g al % 2) (b := 1) (by omega) (by omega)).mpr (by omega)) cq_) (fun _ => ?_)
          refine zj_aload_n (pc := 513) C dL_areTotalsSo_513 rfl ?_
          refine zj_iload (pc := 514) C dL_areTotalsSo_514 rfl ?_
          refine zj_iload_n (pc := 516) C dL_areTotalsSo_516 rfl ?_
          refine zj_iconst (pc := 517) (v := 2) C dL_areTotalsSo_517 (by decide) ?_
          refine zj_callQ (pc := 518) C kv_L_59 (q_WK hu23) dL_areTotalsSo_518 0 rfl rfl rfl rfl rfl rfl rfl (OB_rec hu23) rfl (fun u24 hu24 => ?_)
          refine zj_blk (bs' := [u24]) rfl ?_
          refine zj_top (x' := nI (ps)) ((v_WK hv (c := 2) hx ha (by decide)).trans (wx_2 hwk)) ?_
          refine zj_iload (pc := 521) C dL_areTotalsSo_521 rfl ?_
          refine zj_ishr (pc := 523) C dL_areTotalsSo_523 ?_
          refine zj_iconst (pc := 524) (v := 1) C dL_areTotalsSo_524 (by decide) ?_
          refine zj_iand (pc := 525) C dL_areTotalsSo_525 ?_
          refine zj_top (x' := nI (ps / 2 ^ xx % 2)) (nI_bit (by omega) (by omega)) ?_
          refine zj_iconst (pc := 526) (v := 1) C dL_areTotalsSo_526 (by decide) ?_
          refine zj_icmp_ne (pc := 527) 582 C dL_areTotalsSo_527 (by decide) (fun cq_ => absurd ((nI_eq (a := ps / 2 ^ xx % 2) (b := 1) (by omega) (by omega)).mpr (by omega)) cq_) (fun _ => ?_)
          refine zj_iload (pc := 530) C dL_areTotalsSo_530 rfl ?_
          refine zj_if_ne (pc := 532) 539 C dL_areTotalsSo_532 (by decide) (fun cq_ => absurd ((nI_eq (a := n1) (b := 0) (by omega) (by omega)).mpr (by omega)) cq_) (fun _ => ?_)
          refine zj_iconst (pc := 535) (v := 1) C dL_areTotalsSo_535 (by decide) ?_
          refine zj_goto (pc := 536) (tgt := 540) C dL_areTotalsSo_536 (by decide) ?_
          refine zj_iload (pc := 540) C dL_areTotalsSo_540 rfl ?_
          refine zj_iload_n (pc := 542) C dL_areTotalsSo_542 rfl ?_
          refine zj_icmp_ne (pc := 543) 550 C dL_areTotalsSo_543 (by decide) (fun cq_ => absurd ((nI_eq (a := xx) (b := aC g al) (by omega) (by omega)).mpr (by omega)) cq_) (fun _ => ?_)
          refine zj_iconst (pc := 546) (v := 1) C dL_areTotalsSo_546 (by decide) ?_
          refine zj_goto (pc := 547) (tgt := 551) C dL_areTotalsSo_547 (by decide) ?_
          refine zj_icmp_ne (pc := 551) 582 C dL_areTotalsSo_551 (by decide) (fun cq_ => absurd (by decide) cq_) (fun _ => ?_)
          refine zj_iload (pc := 554) C dL_areTotalsSo_554 rfl ?_
          refine zj_iconst (pc := 556) (v := 1) C dL_areTotalsSo_556 (by decide) ?_
          refine zj_icmp_ne (pc := 557) 578 C dL_areTotalsSo_557 (by decide) (fun cq_ => absurd (by decide) cq_) (fun _ => ?_)
          refine zj_iload (pc := 560) C dL_areTotalsSo_560 rfl ?_
          refine zj_if_lt (pc := 562) 582 C dL_areTotalsSo_562 (by decide) (fun cq_ => absurd cq_ (mt (nI_ltI (a := n1) (b := 0) (by omega) (by omega)).mp (by omega))) (fun _ => ?_)
          refine zj_aload_n (pc := 565) C dL_areTotalsSo_565 rfl ?_
          refine zj_iload (pc := 566) C dL_areTotalsSo_566 rfl ?_
          refine zj_iload_n (pc := 568) C dL_areTotalsSo_568 rfl ?_
          refine zj_iconst (pc := 569) (v := 1) C dL_areTotalsSo_569 (by decide) ?_
          refine zj_callQ (pc := 570) C kv_L_59 (q_WK hu24) dL_areTotalsSo_570 0 rfl rfl rfl rfl rfl rfl rfl (OB_rec hu24) rfl (fun u25 hu25 => ?_)
          refine zj_blk (bs' := [u25]) rfl ?_
          refine zj_top (x' := nI (len)) ((v_WK hv (c := 1) hx ha (by decide)).trans (wx_1 hwk)) ?_
          refine zj_iload (pc := 573) C dL_areTotalsSo_573 rfl ?_
          refine zj_icmp_ne (pc := 575) 582 C dL_areTotalsSo_575 (by decide) (fun cq_ => absurd ((nI_eq (a := len) (b := SS g al xx) (by omega) (by omega)).mpr (by omega)) cq_) (fun _ => ?_)
          refine zj_iconst (pc := 578) (v := 1) C dL_areTotalsSo_578 (by decide) ?_
          refine zj_goto (pc := 579) (tgt := 583) C dL_areTotalsSo_579 (by decide) ?_
          refine zj_istore (pc := 583) C dL_areTotalsSo_583 (Nat.le_of_ble_eq_true rfl) ?_
          refine zj_iinc (pc := 585) (v := nI (xx + 1)) C dL_areTotalsSo_585 rfl (nI_1 _) ?_
          refine zj_goto (pc := 588) (tgt := 23) C dL_areTotalsSo_588 (by decide) ?_
          refine zj_keep [true, true, true, true, true, true, true, false, false, false, false, false, false, false] ?_
          exact ih (xx + 1, u25) ⟨by show xx + 1 ≤ 14; omega, hu25⟩ (by show 14 - (xx + 1) < 14 - xx; omega)
      · refine zj_iload (pc := 359) C dL_areTotalsSo_359 rfl ?_
        refine zj_if_eq (pc := 361) 441 C dL_areTotalsSo_361 (by decide) (fun cq_ => absurd cq_ (by decide)) (fun _ => ?_)
        have ht14 : t < 14 := by have := mt (nI_leI (a := 14) (b := t) (by omega) (by omega)).mpr c_356; omega
        · refine zj_iload (pc := 364) C dL_areTotalsSo_364 rfl ?_
          refine zj_iload (pc := 366) C dL_areTotalsSo_366 rfl ?_
          refine zj_ishr (pc := 368) C dL_areTotalsSo_368 ?_
          refine zj_iconst (pc := 369) (v := 1) C dL_areTotalsSo_369 (by decide) ?_
          refine zj_iand (pc := 370) C dL_areTotalsSo_370 ?_
          refine zj_top (x' := (0 : Int32)) ((nI_bit (s := 0) (j := t) (by decide) (by omega)).trans (by rw [Nat.zero_div]; rfl)) ?_
          refine zj_if_eq (pc := 371) 437 C dL_areTotalsSo_371 (by decide) (fun _ => ?_) (fun cq_ => absurd (by decide) cq_)
          refine zj_iconst (pc := 437) (v := 1) C dL_areTotalsSo_437 (by decide) ?_
          refine zj_goto (pc := 438) (tgt := 442) C dL_areTotalsSo_438 (by decide) ?_
          refine zj_istore (pc := 442) C dL_areTotalsSo_442 (Nat.le_of_ble_eq_true rfl) ?_
          refine zj_iinc (pc := 444) (v := nI (t + 1)) C dL_areTotalsSo_444 rfl (nI_1 _) ?_
          refine zj_goto (pc := 447) (tgt := 352) C dL_areTotalsSo_447 (by decide) ?_
          refine zj_keep [true, true, true, true, true, true, true, true, true, true, true, true, false, true] ?_
          exact iht (t + 1, y0) ⟨by show t + 1 ≤ 14; omega, hy0⟩ (by show 14 - (t + 1) < 14 - t; omega)
    · obtain ⟨hr, ⟨hne, hs0, hs14, z, hz, hz14, hbz, hbj⟩, hwi, hSe⟩ := h1b
      refine zj_aload_n (pc := 30) C dL_areTotalsSo_30 rfl ?_
      refine zj_iload (pc := 31) C dL_areTotalsSo_31 rfl ?_
      refine zj_iload_n (pc := 33) C dL_areTotalsSo_33 rfl ?_
      refine zj_iconst (pc := 34) (v := 0) C dL_areTotalsSo_34 (by decide) ?_
      refine zj_callQ (pc := 35) C kv_L_53 (q_TO hv0) dL_areTotalsSo_35 0 rfl rfl rfl rfl rfl rfl rfl (OB_rec hv0) rfl (fun u26 hu26 => ?_)
      refine zj_blk (bs' := [u26]) rfl ?_
      refine zj_top (x' := nI (SS g al xx)) (v_TO0 hv hW hx ha hr0) ?_
      refine zj_istore (pc := 38) C dL_areTotalsSo_38 (Nat.le_of_ble_eq_true rfl) ?_
      refine zj_aload_n (pc := 40) C dL_areTotalsSo_40 rfl ?_
      refine zj_iload (pc := 41) C dL_areTotalsSo_41 rfl ?_
      refine zj_iload_n (pc := 43) C dL_areTotalsSo_43 rfl ?_
      refine zj_iconst (pc := 44) (v := 1) C dL_areTotalsSo_44 (by decide) ?_
      refine zj_callQ (pc := 45) C kv_L_53 (q_TO hu26) dL_areTotalsSo_45 0 rfl rfl rfl rfl rfl rfl rfl (OB_rec hu26) rfl (fun u27 hu27 => ?_)
      refine zj_blk (bs' := [u27]) rfl ?_
      refine zj_top (x' := (1 : Int32)) ((v_TO1 hv hW hx ha hr0).trans (by rw [hr]; rfl)) ?_
      refine zj_istore (pc := 48) C dL_areTotalsSo_48 (Nat.le_of_ble_eq_true rfl) ?_
      refine zj_aload_n (pc := 50) C dL_areTotalsSo_50 rfl ?_
      refine zj_iload (pc := 51) C dL_areTotalsSo_51 rfl ?_
      refine zj_iload_n (pc := 53) C dL_areTotalsSo_53 rfl ?_
      refine zj_iconst (pc := 54) (v := 3) C dL_areTotalsSo_54 (by decide) ?_
      refine zj_callQ (pc := 55) C kv_L_53 (q_TO hu27) dL_areTotalsSo_55 0 rfl rfl rfl rfl rfl rfl rfl (OB_rec hu27) rfl (fun u28 hu28 => ?_)
      refine zj_blk (bs' := [u28]) rfl ?_
      refine zj_top (x' := nI (seN g W xx al 24)) (v_TO3 hv hW hx ha hr0) ?_
      refine zj_istore (pc := 58) C dL_areTotalsSo_58 (Nat.le_of_ble_eq_true rfl) ?_
      refine zj_aload_n (pc := 60) C dL_areTotalsSo_60 rfl ?_
      refine zj_iload_n (pc := 61) C dL_areTotalsSo_61 rfl ?_
      refine zj_iload (pc := 62) C dL_areTotalsSo_62 rfl ?_
      refine zj_iload_n (pc := 64) C dL_areTotalsSo_64 rfl ?_
      refine zj_callQ (pc := 65) C kv_L_50 (q_WI hu28) dL_areTotalsSo_65 0 rfl rfl rfl rfl rfl rfl rfl (OB_rec hu28) rfl (fun u29 hu29 => ?_)
      refine zj_blk (bs' := [u29]) rfl ?_
      refine zj_top (x' := nI (wiD g al xx)) ((v_WI hW hd4 hx hc14).trans (nFar_t hwi)) ?_
      refine zj_istore (pc := 68) C dL_areTotalsSo_68 (Nat.le_of_ble_eq_true rfl) ?_
      refine zj_aload_n (pc := 70) C dL_areTotalsSo_70 rfl ?_
      refine zj_iload (pc := 71) C dL_areTotalsSo_71 rfl ?_
      refine zj_iload_n (pc := 73) C dL_areTotalsSo_73 rfl ?_
      refine zj_callQ (pc := 74) C kv_L_56 (q_SH hu29) dL_areTotalsSo_74 0 rfl rfl rfl rfl rfl rfl rfl (OB_rec hu29) rfl (fun u30 hu30 => ?_)
      refine zj_blk (bs' := [u30]) rfl ?_
      refine zj_top (x' := nI (shD4 g al xx)) ((v_SH hv hW hx ha).trans (nFar_t (by show shD4 g al xx < 1000000; omega))) ?_
      refine zj_istore (pc := 77) C dL_areTotalsSo_77 (Nat.le_of_ble_eq_true rfl) ?_
      refine zj_aload_n (pc := 79) C dL_areTotalsSo_79 rfl ?_
      refine zj_iload (pc := 80) C dL_areTotalsSo_80 rfl ?_
      refine zj_iconst (pc := 82) (v := 1) C dL_areTotalsSo_82 (by decide) ?_
      refine zj_callQ (pc := 83) C kv_L_41 (q_CO hu30) dL_areTotalsSo_83 0 rfl rfl rfl rfl rfl rfl rfl (OB_rec hu30) rfl (fun u31 hu31 => ?_)
      refine zj_blk (bs' := [u31]) rfl ?_
      refine zj_top (x' := nI (dsV (dst g) xx)) (v_CO1 hW hx) ?_
      refine zj_iconst (pc := 86) (v := 1) C dL_areTotalsSo_86 (by decide) ?_
      refine zj_iand (pc := 87) C dL_areTotalsSo_87 ?_
      refine zj_top (x' := nI (dsV (dst g) xx % 2)) (and_1 ⟨dsV (dst g) xx, hds16⟩) ?_
      refine zj_iconst (pc := 88) (v := 1) C dL_areTotalsSo_88 (by decide) ?_
      refine zm_icmp_ne_0 (pc := 89) C dL_areTotalsSo_89 dL_areTotalsSo_92 dL_areTotalsSo_93 dL_areTotalsSo_96 ?_
      refine zj_istore (pc := 97) C dL_areTotalsSo_97 (Nat.le_of_ble_eq_true rfl) ?_
      refine zj_iload (pc := 99) C dL_areTotalsSo_99 rfl ?_
      refine zj_iload (pc := 101) C dL_areTotalsSo_101 rfl ?_
      refine zj_if_lt (pc := 103) 110 C dL_areTotalsSo_103 (by decide) (fun cq_ => absurd cq_ (mt (nI_ltI (a := SS g al xx) (b := 0) (by omega) (by omega)).mp (by omega))) (fun _ => ?_)
      refine zj_iconst (pc := 106) (v := 1) C dL_areTotalsSo_106 (by decide) ?_
      refine zj_goto (pc := 107) (tgt := 111) C dL_areTotalsSo_107 (by decide) ?_
      refine zj_iadd (pc := 111) C dL_areTotalsSo_111 ?_
      refine zj_top (x' := nI (cntB (fun y => !(RR g al y == 0)) (xx + 1))) (by rw [cntB_t (p := fun y => !(RR g al y == 0)) (by simp [hr])]; exact nI_1 _) ?_
      refine zj_istore (pc := 112) C dL_areTotalsSo_112 (Nat.le_of_ble_eq_true rfl) ?_
      refine zj_iload (pc := 114) C dL_areTotalsSo_114 rfl ?_
      refine zj_if_ge (pc := 116) 186 C dL_areTotalsSo_116 (by decide) (fun _ => ?_) (fun cq_ => absurd ((nI_leI (a := 0) (b := SS g al xx) (by omega) (by omega)).mpr (by omega)) cq_)
      refine zj_iload (pc := 186) C dL_areTotalsSo_186 rfl ?_
      refine zj_if_eq (pc := 188) 346 C dL_areTotalsSo_188 (by decide) (fun cq_ => absurd cq_ (by decide)) (fun _ => ?_)
      refine zj_iload (pc := 191) C dL_areTotalsSo_191 rfl ?_
      refine zj_iconst (pc := 193) (v := 1) C dL_areTotalsSo_193 (by decide) ?_
      refine zj_icmp_ne (pc := 194) 201 C dL_areTotalsSo_194 (by decide) (fun cq_ => absurd (by decide) cq_) (fun _ => ?_)
      refine zj_iconst (pc := 197) (v := 1) C dL_areTotalsSo_197 (by decide) ?_
      refine zj_goto (pc := 198) (tgt := 202) C dL_areTotalsSo_198 (by decide) ?_
      refine zj_iload (pc := 202) C dL_areTotalsSo_202 rfl ?_
      refine zj_if_lt (pc := 204) 211 C dL_areTotalsSo_204 (by decide) (fun cq_ => absurd cq_ (mt (nI_ltI (a := wiD g al xx) (b := 0) (by omega) (by omega)).mp (by omega))) (fun _ => ?_)
      refine zj_iconst (pc := 207) (v := 1) C dL_areTotalsSo_207 (by decide) ?_
      refine zj_goto (pc := 208) (tgt := 212) C dL_areTotalsSo_208 (by decide) ?_
      refine zj_icmp_ne (pc := 212) 346 C dL_areTotalsSo_212 (by decide) (fun cq_ => absurd (by decide) cq_) (fun _ => ?_)
      refine zj_iload (pc := 215) C dL_areTotalsSo_215 rfl ?_
      refine zj_iconst (pc := 217) (v := 1) C dL_areTotalsSo_217 (by decide) ?_
      refine zj_icmp_ne (pc := 218) 235 C dL_areTotalsSo_218 (by decide) (fun cq_ => absurd (by decide) cq_) (fun _ => ?_)
      refine zj_iload (pc := 221) C dL_areTotalsSo_221 rfl ?_
      refine zj_iload (pc := 223) C dL_areTotalsSo_223 rfl ?_
      refine zj_aload_n (pc := 225) C dL_areTotalsSo_225 rfl ?_
      refine zj_iload_n (pc := 226) C dL_areTotalsSo_226 rfl ?_
      refine zj_iconst (pc := 227) (v := 1) C dL_areTotalsSo_227 (by decide) ?_
      refine zj_callQ (pc := 228) C kv_L_47 (q_AO hu31) dL_areTotalsSo_228 0 rfl rfl rfl rfl rfl rfl rfl (OB_rec hu31) rfl (fun u32 hu32 => ?_)
      refine zj_blk (bs' := [u32]) rfl ?_
      refine zj_top (x' := nI (aL g al)) (v_AO hv (k := al) (c := 1) ha (by decide)) ?_
      refine zj_iadd (pc := 231) C dL_areTotalsSo_231 ?_
      refine zj_top (x' := nI (wiD g al xx + aL g al)) (nI_add (wiD g al xx) (aL g al)) ?_
      refine zj_icmp_ne (pc := 232) 346 C dL_areTotalsSo_232 (by decide) (fun cq_ => absurd ((nI_eq (a := SS g al xx) (b := wiD g al xx + aL g al) (by omega) (by omega)).mpr (by omega)) cq_) (fun _ => ?_)
      refine zj_iload (pc := 235) C dL_areTotalsSo_235 rfl ?_
      refine zj_iconst (pc := 237) (v := 1) C dL_areTotalsSo_237 (by decide) ?_
      refine zj_icmp_eq (pc := 238) 257 C dL_areTotalsSo_238 (by decide) (fun _ => ?_) (fun cq_ => absurd (by decide) cq_)
      refine zj_iload (pc := 257) C dL_areTotalsSo_257 rfl ?_
      refine zj_iconst (pc := 259) (v := 2) C dL_areTotalsSo_259 (by decide) ?_
      refine zj_icmp_ne (pc := 260) 267 C dL_areTotalsSo_260 (by decide) (fun _ => ?_) (fun cq_ => absurd cq_ (by decide))
      refine zj_iload (pc := 267) C dL_areTotalsSo_267 rfl ?_
      refine zj_if_lt (pc := 269) 346 C dL_areTotalsSo_269 (by decide) (fun cq_ => absurd cq_ (mt (nI_ltI (a := shD4 g al xx) (b := 0) (by omega) (by omega)).mp (by omega))) (fun _ => ?_)
      refine zj_iload (pc := 272) C dL_areTotalsSo_272 rfl ?_
      refine zj_iload (pc := 274) C dL_areTotalsSo_274 rfl ?_
      refine zj_icmp_lt (pc := 276) 346 C dL_areTotalsSo_276 (by decide) (fun cq_ => absurd cq_ (mt (nI_ltI (a := SS g al xx) (b := shD4 g al xx) (by omega) (by omega)).mp (by omega))) (fun _ => ?_)
      refine zj_aload_n (pc := 279) C dL_areTotalsSo_279 rfl ?_
      refine zj_iload (pc := 280) C dL_areTotalsSo_280 rfl ?_
      refine zj_iload_n (pc := 282) C dL_areTotalsSo_282 rfl ?_
      refine zj_callQ (pc := 283) C kv_L_62 (q_ST hu32) dL_areTotalsSo_283 0 rfl rfl rfl rfl rfl rfl rfl (OB_rec hu32) rfl (fun u33 hu33 => ?_)
      refine zj_blk (bs' := [u33]) rfl ?_
      refine zj_fconst1 (pc := 286) C dL_areTotalsSo_286 ?_
      refine zj_fcmpl (pc := 287) C dL_areTotalsSo_287 ?_
      refine zj_if_lt (pc := 288) 346 C dL_areTotalsSo_288 (by decide) (fun cq_ => absurd cq_ (v_STs hv hW hx ha hr0)) (fun _ => ?_)
      refine zj_iload (pc := 291) C dL_areTotalsSo_291 rfl ?_
      refine zj_iconst (pc := 293) (v := 1) C dL_areTotalsSo_293 (by decide) ?_
      refine zj_icmp_ne (pc := 294) 311 C dL_areTotalsSo_294 (by decide) (fun cq_ => absurd (by decide) cq_) (fun _ => ?_)
      refine zj_iload (pc := 297) C dL_areTotalsSo_297 rfl ?_
      refine zj_iload_n (pc := 299) C dL_areTotalsSo_299 rfl ?_
      refine zj_icmp_ne (pc := 300) 311 C dL_areTotalsSo_300 (by decide) (fun _ => ?_) (fun cq_ => absurd cq_ (mt (nI_eq (a := xx) (b := aC g al) (by omega) (by omega)).mp (by omega)))
      refine zj_iload (pc := 311) C dL_areTotalsSo_311 rfl ?_
      refine zj_if_le (pc := 313) 346 C dL_areTotalsSo_313 (by decide) (fun cq_ => absurd cq_ (mt (nI_leI (a := seN g W xx al 24) (b := 0) (by omega) (by omega)).mp (by omega))) (fun _ => ?_)
      refine zj_aload_n (pc := 316) C dL_areTotalsSo_316 rfl ?_
      refine zj_iload (pc := 317) C dL_areTotalsSo_317 rfl ?_
      refine zj_iload_n (pc := 319) C dL_areTotalsSo_319 rfl ?_
      refine zj_iconst (pc := 320) (v := 2) C dL_areTotalsSo_320 (by decide) ?_
      refine zj_callQ (pc := 321) C kv_L_53 (q_TO hu33) dL_areTotalsSo_321 0 rfl rfl rfl rfl rfl rfl rfl (OB_rec hu33) rfl (fun u34 hu34 => ?_)
      refine zj_blk (bs' := [u34]) rfl ?_
      refine zj_top (x' := nI (z)) ((v_TO2 hv hW hx ha hr0).trans hz) ?_
      refine zj_iload (pc := 324) C dL_areTotalsSo_324 rfl ?_
      refine zj_if_ne (pc := 326) 334 C dL_areTotalsSo_326 (by decide) (fun _ => ?_) (fun cq_ => absurd cq_ (mt (nI_eq (a := seN g W xx al 24) (b := 0) (by omega) (by omega)).mp (by omega)))
      refine zj_iload (pc := 334) C dL_areTotalsSo_334 rfl ?_
      refine zj_callSF (pc := 336) C kv_L_67 (m_L_lowest (n := seN g W xx al 24) (z := z) hs14 hz14 hbz hbj) dL_areTotalsSo_336 rfl rfl rfl rfl rfl rfl ?_
      refine zj_icmp_ne (pc := 339) 346 C dL_areTotalsSo_339 (by decide) (fun cq_ => absurd rfl cq_) (fun _ => ?_)
      refine zj_iconst (pc := 342) (v := 1) C dL_areTotalsSo_342 (by decide) ?_
      refine zj_goto (pc := 343) (tgt := 347) C dL_areTotalsSo_343 (by decide) ?_
      refine zj_istore (pc := 347) C dL_areTotalsSo_347 (Nat.le_of_ble_eq_true rfl) ?_
      refine zj_iconst (pc := 349) (v := 0) C dL_areTotalsSo_349 (by decide) ?_
      refine zj_istore (pc := 350) C dL_areTotalsSo_350 (Nat.le_of_ble_eq_true rfl) ?_
      refine zj_keep [true, true, true, true, true, true, true, true, true, true, true, true, false, true] ?_
      refine zj_loopW (σ := Nat × va_W) (fun x => x.1 ≤ 14 ∧ OB G a g hn F W x.2) (fun x => 14 - x.1) (fun x => [x.2]) (fun x => [some (.ref a), some (.int (nI (al))), some (.int (nI (aC g al))), some (.int (nI (aD g al))), some (.int (nI (cntB (fun y => !(RR g al y == 0)) (xx + 1)))), some (.int (1)), some (.int (nI (xx))), some (.int (nI (SS g al xx))), some (.int (1)), some (.int (nI (seN g W xx al 24))), some (.int (nI (wiD g al xx))), some (.int (nI (shD4 g al xx))), none, some (.int (nI (x.1)))]) ?_ (0, u34) ⟨Nat.zero_le _, hu34⟩
      rintro ⟨t, y0⟩ ⟨ht, hy0⟩ iht
      have ht : t ≤ 14 := ht
      refine zj_eq (bs' := [y0]) (lo' := [some (.ref a), some (.int (nI (al))), some (.int (nI (aC g al))), some (.int (nI (aD g al))), some (.int (nI (cntB (fun y => !(RR g al y == 0)) (xx + 1)))), some (.int (1)), some (.int (nI (xx))), some (.int (nI (SS g al xx))), some (.int (1)), some (.int (nI (seN g W xx al 24))), some (.int (nI (wiD g al xx))), some (.int (nI (shD4 g al xx))), none, some (.int (nI (t)))]) rfl rfl rfl ?_
      refine zj_iload (pc := 352) C dL_areTotalsSo_352 rfl ?_
      refine zj_bipush (pc := 354) (v := 14) C dL_areTotalsSo_354 (by decide) ?_
      refine zj_icmp_ge (pc := 356) 450 C dL_areTotalsSo_356 (by decide) (fun c_356 => ?_) (fun c_356 => ?_)
      · have wf := wk_f hv hW hx ha hr0
        rcases hwk : wkG g W al 31 xx (alC g al 1) 0 with _ | ⟨n1, len, ps⟩
        · rw [hwk] at wf
          exact absurd hr wf
        · rw [hwk] at wf
          obtain ⟨w1, w2, w3, w4, w5, w6, w7, w8⟩ := wf
          refine zj_aload_n (pc := 450) C dL_areTotalsSo_450 rfl ?_
          refine zj_iload (pc := 451) C dL_areTotalsSo_451 rfl ?_
          refine zj_iload_n (pc := 453) C dL_areTotalsSo_453 rfl ?_
          refine zj_iconst (pc := 454) (v := 0) C dL_areTotalsSo_454 (by decide) ?_
          refine zj_callQ (pc := 455) C kv_L_59 (q_WK hy0) dL_areTotalsSo_455 0 rfl rfl rfl rfl rfl rfl rfl (OB_rec hy0) rfl (fun u35 hu35 => ?_)
          refine zj_blk (bs' := [u35]) rfl ?_
          refine zj_top (x' := nI (n1)) ((v_WK hv (c := 0) hx ha (by decide)).trans (wx_0 hwk)) ?_
          refine zj_istore (pc := 458) C dL_areTotalsSo_458 (Nat.le_of_ble_eq_true rfl) ?_
          refine zj_iload (pc := 460) C dL_areTotalsSo_460 rfl ?_
          refine zj_if_eq (pc := 462) 582 C dL_areTotalsSo_462 (by decide) (fun cq_ => absurd cq_ (by decide)) (fun _ => ?_)
          refine zj_iload (pc := 465) C dL_areTotalsSo_465 rfl ?_
          refine zj_bipush (pc := 467) (v := (-5)) C dL_areTotalsSo_467 (by decide) ?_
          refine zj_icmp_eq (pc := 469) 554 C dL_areTotalsSo_469 (by decide) (fun cq_ => absurd cq_ (nI_ne5 (a := n1) (by omega))) (fun _ => ?_)
          refine zj_iload (pc := 472) C dL_areTotalsSo_472 rfl ?_
          refine zj_if_lt (pc := 474) 582 C dL_areTotalsSo_474 (by decide) (fun cq_ => absurd cq_ (mt (nI_ltI (a := n1) (b := 0) (by omega) (by omega)).mp (by omega))) (fun _ => ?_)
          refine zj_iload (pc := 477) C dL_areTotalsSo_477 rfl ?_
          refine zj_bipush (pc := 479) (v := 30) C dL_areTotalsSo_479 (by decide) ?_
          refine zj_icmp_gt (pc := 481) 582 C dL_areTotalsSo_481 (by decide) (fun cq_ => absurd cq_ (mt (nI_ltI (a := 30) (b := n1) (by omega) (by omega)).mp (by omega))) (fun _ => ?_)
          refine zj_aload_n (pc := 484) C dL_areTotalsSo_484 rfl ?_
          refine zj_iload (pc := 485) C dL_areTotalsSo_485 rfl ?_
          refine zj_iload_n (pc := 487) C dL_areTotalsSo_487 rfl ?_
          refine zj_iconst (pc := 488) (v := 1) C dL_areTotalsSo_488 (by decide) ?_
          refine zj_callQ (pc := 489) C kv_L_59 (q_WK hu35) dL_areTotalsSo_489 0 rfl rfl rfl rfl rfl rfl rfl (OB_rec hu35) rfl (fun u36 hu36 => ?_)
          refine zj_blk (bs' := [u36]) rfl ?_
          refine zj_top (x' := nI (len)) ((v_WK hv (c := 1) hx ha (by decide)).trans (wx_1 hwk)) ?_
          refine zj_iload (pc := 492) C dL_areTotalsSo_492 rfl ?_
          refine zj_icmp_lt (pc := 494) 582 C dL_areTotalsSo_494 (by decide) (fun cq_ => absurd cq_ (mt (nI_ltI (a := len) (b := shD4 g al xx) (by omega) (by omega)).mp (by omega))) (fun _ => ?_)
          refine zj_aload_n (pc := 497) C dL_areTotalsSo_497 rfl ?_
          refine zj_iload (pc := 498) C dL_areTotalsSo_498 rfl ?_
          refine zj_iload_n (pc := 500) C dL_areTotalsSo_500 rfl ?_
          refine zj_iconst (pc := 501) (v := 2) C dL_areTotalsSo_501 (by decide) ?_
          refine zj_callQ (pc := 502) C kv_L_59 (q_WK hu36) dL_areTotalsSo_502 0 rfl rfl rfl rfl rfl rfl rfl (OB_rec hu36) rfl (fun u37 hu37 => ?_)
          refine zj_blk (bs' := [u37]) rfl ?_
          refine zj_top (x' := nI (ps)) ((v_WK hv (c := 2) hx ha (by decide)).trans (wx_2 hwk)) ?_
          refine zj_iload_n (pc := 505) C dL_areTotalsSo_505 rfl ?_
          refine zj_ishr (pc := 506) C dL_areTotalsSo_506 ?_
          refine zj_iconst (pc := 507) (v := 1) C dL_areTotalsSo_507 (by decide) ?_
          refine zj_iand (pc := 508) C dL_areTotalsSo_508 ?_
          refine zj_top (x' := nI (ps / 2 ^ aC g al % 2)) (nI_bit (by omega) (by omega)) ?_
          refine zj_iconst (pc := 509) (v := 1) C dL_areTotalsSo_509 (by decide) ?_
          refine zj_icmp_ne (pc := 510) 582 C dL_areTotalsSo_510 (by decide) (fun cq_ => absurd ((nI_eq (a := ps / 2 ^ aC g al % 2) (b := 1) (by omega) (by omega)).mpr (by omega)) cq_) (fun _ => ?_)
          refine zj_aload_n (pc := 513) C dL_areTotalsSo_513 rfl ?_
          refine zj_iload (pc := 514) C dL_areTotalsSo_514 rfl ?_
          refine zj_iload_n (pc := 516) C dL_areTotalsSo_516 rfl ?_
          refine zj_iconst (pc := 517) (v := 2) C dL_areTotalsSo_517 (by decide) ?_
          refine zj_callQ (pc := 518) C kv_L_59 (q_WK hu37) dL_areTotalsSo_518 0 rfl rfl rfl rfl rfl rfl rfl (OB_rec hu37) rfl (fun u38 hu38 => ?_)
          refine zj_blk (bs' := [u38]) rfl ?_
          refine zj_top (x' := nI (ps)) ((v_WK hv (c := 2) hx ha (by decide)).trans (wx_2 hwk)) ?_
          refine zj_iload (pc := 521) C dL_areTotalsSo_521 rfl ?_
          refine zj_ishr (pc := 523) C dL_areTotalsSo_523 ?_
          refine zj_iconst (pc := 524) (v := 1) C dL_areTotalsSo_524 (by decide) ?_
          refine zj_iand (pc := 525) C dL_areTotalsSo_525 ?_
          refine zj_top (x' := nI (ps / 2 ^ xx % 2)) (nI_bit (by omega) (by omega)) ?_
          refine zj_iconst (pc := 526) (v := 1) C dL_areTotalsSo_526 (by decide) ?_
          refine zj_icmp_ne (pc := 527) 582 C dL_areTotalsSo_527 (by decide) (fun cq_ => absurd ((nI_eq (a := ps / 2 ^ xx % 2) (b := 1) (by omega) (by omega)).mpr (by omega)) cq_) (fun _ => ?_)
          refine zj_iload (pc := 530) C dL_areTotalsSo_530 rfl ?_
          refine zj_if_ne (pc := 532) 539 C dL_areTotalsSo_532 (by decide) (fun _ => ?_) (fun cq_ => absurd cq_ (mt (nI_eq (a := n1) (b := 0) (by omega) (by omega)).mp (by omega)))
          refine zj_iconst (pc := 539) (v := 0) C dL_areTotalsSo_539 (by decide) ?_
          refine zj_iload (pc := 540) C dL_areTotalsSo_540 rfl ?_
          refine zj_iload_n (pc := 542) C dL_areTotalsSo_542 rfl ?_
          refine zj_icmp_ne (pc := 543) 550 C dL_areTotalsSo_543 (by decide) (fun _ => ?_) (fun cq_ => absurd cq_ (mt (nI_eq (a := xx) (b := aC g al) (by omega) (by omega)).mp (by omega)))
          refine zj_iconst (pc := 550) (v := 0) C dL_areTotalsSo_550 (by decide) ?_
          refine zj_icmp_ne (pc := 551) 582 C dL_areTotalsSo_551 (by decide) (fun cq_ => absurd (by decide) cq_) (fun _ => ?_)
          refine zj_iload (pc := 554) C dL_areTotalsSo_554 rfl ?_
          refine zj_iconst (pc := 556) (v := 1) C dL_areTotalsSo_556 (by decide) ?_
          refine zj_icmp_ne (pc := 557) 578 C dL_areTotalsSo_557 (by decide) (fun cq_ => absurd (by decide) cq_) (fun _ => ?_)
          refine zj_iload (pc := 560) C dL_areTotalsSo_560 rfl ?_
          refine zj_if_lt (pc := 562) 582 C dL_areTotalsSo_562 (by decide) (fun cq_ => absurd cq_ (mt (nI_ltI (a := n1) (b := 0) (by omega) (by omega)).mp (by omega))) (fun _ => ?_)
          refine zj_aload_n (pc := 565) C dL_areTotalsSo_565 rfl ?_
          refine zj_iload (pc := 566) C dL_areTotalsSo_566 rfl ?_
          refine zj_iload_n (pc := 568) C dL_areTotalsSo_568 rfl ?_
          refine zj_iconst (pc := 569) (v := 1) C dL_areTotalsSo_569 (by decide) ?_
          refine zj_callQ (pc := 570) C kv_L_59 (q_WK hu38) dL_areTotalsSo_570 0 rfl rfl rfl rfl rfl rfl rfl (OB_rec hu38) rfl (fun u39 hu39 => ?_)
          refine zj_blk (bs' := [u39]) rfl ?_
          refine zj_top (x' := nI (len)) ((v_WK hv (c := 1) hx ha (by decide)).trans (wx_1 hwk)) ?_
          refine zj_iload (pc := 573) C dL_areTotalsSo_573 rfl ?_
          refine zj_icmp_ne (pc := 575) 582 C dL_areTotalsSo_575 (by decide) (fun cq_ => absurd ((nI_eq (a := len) (b := SS g al xx) (by omega) (by omega)).mpr (by omega)) cq_) (fun _ => ?_)
          refine zj_iconst (pc := 578) (v := 1) C dL_areTotalsSo_578 (by decide) ?_
          refine zj_goto (pc := 579) (tgt := 583) C dL_areTotalsSo_579 (by decide) ?_
          refine zj_istore (pc := 583) C dL_areTotalsSo_583 (Nat.le_of_ble_eq_true rfl) ?_
          refine zj_iinc (pc := 585) (v := nI (xx + 1)) C dL_areTotalsSo_585 rfl (nI_1 _) ?_
          refine zj_goto (pc := 588) (tgt := 23) C dL_areTotalsSo_588 (by decide) ?_
          refine zj_keep [true, true, true, true, true, true, true, false, false, false, false, false, false, false] ?_
          exact ih (xx + 1, u39) ⟨by show xx + 1 ≤ 14; omega, hu39⟩ (by show 14 - (xx + 1) < 14 - xx; omega)
      · refine zj_iload (pc := 359) C dL_areTotalsSo_359 rfl ?_
        refine zj_if_eq (pc := 361) 441 C dL_areTotalsSo_361 (by decide) (fun cq_ => absurd cq_ (by decide)) (fun _ => ?_)
        have ht14 : t < 14 := by have := mt (nI_leI (a := 14) (b := t) (by omega) (by omega)).mpr c_356; omega
        by_cases hbt : bitB (seN g W xx al 24) t = true
        · have hb1 := bit_1 hbt
          obtain ⟨i0, hi0, hti, hj, hds⟩ := steps_b hv hW hx ha hbt
          rcases hds with ⟨-, sd, st1, st2⟩ | q | q
          rotate_left
          · rw [hr] at q; exact absurd q.1 (by decide)
          · rw [hr] at q; exact absurd q.1 (by decide)
          refine zj_iload (pc := 364) C dL_areTotalsSo_364 rfl ?_
          refine zj_iload (pc := 366) C dL_areTotalsSo_366 rfl ?_
          refine zj_ishr (pc := 368) C dL_areTotalsSo_368 ?_
          refine zj_iconst (pc := 369) (v := 1) C dL_areTotalsSo_369 (by decide) ?_
          refine zj_iand (pc := 370) C dL_areTotalsSo_370 ?_
          refine zj_top (x' := nI (seN g W xx al 24 / 2 ^ t % 2)) (nI_bit (by omega) (by omega)) ?_
          refine zj_if_eq (pc := 371) 437 C dL_areTotalsSo_371 (by decide) (fun cq_ => absurd cq_ (mt (nI_eq (a := seN g W xx al 24 / 2 ^ t % 2) (b := 0) (by omega) (by omega)).mp (by omega))) (fun _ => ?_)
          refine zj_aload_n (pc := 374) C dL_areTotalsSo_374 rfl ?_
          refine zj_iload (pc := 375) C dL_areTotalsSo_375 rfl ?_
          refine zj_iload (pc := 377) C dL_areTotalsSo_377 rfl ?_
          refine zj_iload (pc := 379) C dL_areTotalsSo_379 rfl ?_
          refine zj_iconst (pc := 381) (v := 1) C dL_areTotalsSo_381 (by decide) ?_
          refine zj_icmp_ne (pc := 382) 389 C dL_areTotalsSo_382 (by decide) (fun cq_ => absurd (by decide) cq_) (fun _ => ?_)
          refine zj_iload_n (pc := 385) C dL_areTotalsSo_385 rfl ?_
          refine zj_goto (pc := 386) (tgt := 400) C dL_areTotalsSo_386 (by decide) ?_
          refine zj_callS1 (pc := 400) C kv_L_70 (zY_of (m_L_isLane hy0 hi0 hti hj (Or.inr ⟨nI_pos (by omega), by rw [sd]⟩))) dL_areTotalsSo_400 0 rfl rfl rfl rfl rfl rfl rfl (fun u40 hu40 => ?_)
          refine zj_blk (bs' := [u40]) rfl ?_
          refine zj_if_eq (pc := 403) 441 C dL_areTotalsSo_403 (by decide) (fun cq_ => absurd cq_ (by decide)) (fun _ => ?_)
          refine zj_iload (pc := 406) C dL_areTotalsSo_406 rfl ?_
          refine zj_iconst (pc := 408) (v := 1) C dL_areTotalsSo_408 (by decide) ?_
          refine zj_icmp_ne (pc := 409) 437 C dL_areTotalsSo_409 (by decide) (fun cq_ => absurd (by decide) cq_) (fun _ => ?_)
          refine zj_aload_n (pc := 412) C dL_areTotalsSo_412 rfl ?_
          refine zj_iload (pc := 413) C dL_areTotalsSo_413 rfl ?_
          refine zj_iload_n (pc := 415) C dL_areTotalsSo_415 rfl ?_
          refine zj_iconst (pc := 416) (v := 1) C dL_areTotalsSo_416 (by decide) ?_
          refine zj_callQ (pc := 417) C kv_L_53 (q_TO hu40) dL_areTotalsSo_417 0 rfl rfl rfl rfl rfl rfl rfl (OB_rec hu40) rfl (fun u41 hu41 => ?_)
          refine zj_blk (bs' := [u41]) rfl ?_
          refine zj_top (x' := (1 : Int32)) ((v_TO1 hv hW (by omega) ha (by rw [st1]; decide)).trans (by rw [st1]; rfl)) ?_
          refine zj_iconst (pc := 420) (v := 1) C dL_areTotalsSo_420 (by decide) ?_
          refine zj_icmp_ne (pc := 421) 441 C dL_areTotalsSo_421 (by decide) (fun cq_ => absurd (by decide) cq_) (fun _ => ?_)
          refine zj_aload_n (pc := 424) C dL_areTotalsSo_424 rfl ?_
          refine zj_iload (pc := 425) C dL_areTotalsSo_425 rfl ?_
          refine zj_iload_n (pc := 427) C dL_areTotalsSo_427 rfl ?_
          refine zj_iconst (pc := 428) (v := 0) C dL_areTotalsSo_428 (by decide) ?_
          refine zj_callQ (pc := 429) C kv_L_53 (q_TO hu41) dL_areTotalsSo_429 0 rfl rfl rfl rfl rfl rfl rfl (OB_rec hu41) rfl (fun u42 hu42 => ?_)
          refine zj_blk (bs' := [u42]) rfl ?_
          refine zj_top (x' := nI (SS g al t)) (v_TO0 hv hW (by omega) ha (by rw [st1]; decide)) ?_
          refine zj_iload (pc := 432) C dL_areTotalsSo_432 rfl ?_
          refine zj_icmp_ge (pc := 434) 441 C dL_areTotalsSo_434 (by decide) (fun cq_ => absurd cq_ (mt (nI_leI (a := SS g al xx) (b := SS g al t) (by omega) (by omega)).mp (by omega))) (fun _ => ?_)
          refine zj_iconst (pc := 437) (v := 1) C dL_areTotalsSo_437 (by decide) ?_
          refine zj_goto (pc := 438) (tgt := 442) C dL_areTotalsSo_438 (by decide) ?_
          refine zj_istore (pc := 442) C dL_areTotalsSo_442 (Nat.le_of_ble_eq_true rfl) ?_
          refine zj_iinc (pc := 444) (v := nI (t + 1)) C dL_areTotalsSo_444 rfl (nI_1 _) ?_
          refine zj_goto (pc := 447) (tgt := 352) C dL_areTotalsSo_447 (by decide) ?_
          refine zj_keep [true, true, true, true, true, true, true, true, true, true, true, true, false, true] ?_
          exact iht (t + 1, u42) ⟨by show t + 1 ≤ 14; omega, hu42⟩ (by show 14 - (t + 1) < 14 - t; omega)
        · have hb1 := bit_0 hbt
          refine zj_iload (pc := 364) C dL_areTotalsSo_364 rfl ?_
          refine zj_iload (pc := 366) C dL_areTotalsSo_366 rfl ?_
          refine zj_ishr (pc := 368) C dL_areTotalsSo_368 ?_
          refine zj_iconst (pc := 369) (v := 1) C dL_areTotalsSo_369 (by decide) ?_
          refine zj_iand (pc := 370) C dL_areTotalsSo_370 ?_
          refine zj_top (x' := nI (seN g W xx al 24 / 2 ^ t % 2)) (nI_bit (by omega) (by omega)) ?_
          refine zj_if_eq (pc := 371) 437 C dL_areTotalsSo_371 (by decide) (fun _ => ?_) (fun cq_ => absurd ((nI_eq (a := seN g W xx al 24 / 2 ^ t % 2) (b := 0) (by omega) (by omega)).mpr (by omega)) cq_)
          refine zj_iconst (pc := 437) (v := 1) C dL_areTotalsSo_437 (by decide) ?_
          refine zj_goto (pc := 438) (tgt := 442) C dL_areTotalsSo_438 (by decide) ?_
          refine zj_istore (pc := 442) C dL_areTotalsSo_442 (Nat.le_of_ble_eq_true rfl) ?_
          refine zj_iinc (pc := 444) (v := nI (t + 1)) C dL_areTotalsSo_444 rfl (nI_1 _) ?_
          refine zj_goto (pc := 447) (tgt := 352) C dL_areTotalsSo_447 (by decide) ?_
          refine zj_keep [true, true, true, true, true, true, true, true, true, true, true, true, false, true] ?_
          exact iht (t + 1, y0) ⟨by show t + 1 ≤ 14; omega, hy0⟩ (by show 14 - (t + 1) < 14 - t; omega)
    · obtain ⟨hr, ⟨hne, hs0, hs14, z, hz, hz14, hbz, hbj⟩, hwi, hd1, h00⟩ := h2
      have hbk := (bit_d (g := g) (d := 0) (c := xx) (by decide)).1 h00
      refine zj_aload_n (pc := 30) C dL_areTotalsSo_30 rfl ?_
      refine zj_iload (pc := 31) C dL_areTotalsSo_31 rfl ?_
      refine zj_iload_n (pc := 33) C dL_areTotalsSo_33 rfl ?_
      refine zj_iconst (pc := 34) (v := 0) C dL_areTotalsSo_34 (by decide) ?_
      refine zj_callQ (pc := 35) C kv_L_53 (q_TO hv0) dL_areTotalsSo_35 0 rfl rfl rfl rfl rfl rfl rfl (OB_rec hv0) rfl (fun u43 hu43 => ?_)
      refine zj_blk (bs' := [u43]) rfl ?_
      refine zj_top (x' := nI (SS g al xx)) (v_TO0 hv hW hx ha hr0) ?_
      refine zj_istore (pc := 38) C dL_areTotalsSo_38 (Nat.le_of_ble_eq_true rfl) ?_
      refine zj_aload_n (pc := 40) C dL_areTotalsSo_40 rfl ?_
      refine zj_iload (pc := 41) C dL_areTotalsSo_41 rfl ?_
      refine zj_iload_n (pc := 43) C dL_areTotalsSo_43 rfl ?_
      refine zj_iconst (pc := 44) (v := 1) C dL_areTotalsSo_44 (by decide) ?_
      refine zj_callQ (pc := 45) C kv_L_53 (q_TO hu43) dL_areTotalsSo_45 0 rfl rfl rfl rfl rfl rfl rfl (OB_rec hu43) rfl (fun u44 hu44 => ?_)
      refine zj_blk (bs' := [u44]) rfl ?_
      refine zj_top (x' := (2 : Int32)) ((v_TO1 hv hW hx ha hr0).trans (by rw [hr]; rfl)) ?_
      refine zj_istore (pc := 48) C dL_areTotalsSo_48 (Nat.le_of_ble_eq_true rfl) ?_
      refine zj_aload_n (pc := 50) C dL_areTotalsSo_50 rfl ?_
      refine zj_iload (pc := 51) C dL_areTotalsSo_51 rfl ?_
      refine zj_iload_n (pc := 53) C dL_areTotalsSo_53 rfl ?_
      refine zj_iconst (pc := 54) (v := 3) C dL_areTotalsSo_54 (by decide) ?_
      refine zj_callQ (pc := 55) C kv_L_53 (q_TO hu44) dL_areTotalsSo_55 0 rfl rfl rfl rfl rfl rfl rfl (OB_rec hu44) rfl (fun u45 hu45 => ?_)
      refine zj_blk (bs' := [u45]) rfl ?_
      refine zj_top (x' := nI (seN g W xx al 24)) (v_TO3 hv hW hx ha hr0) ?_
      refine zj_istore (pc := 58) C dL_areTotalsSo_58 (Nat.le_of_ble_eq_true rfl) ?_
      refine zj_aload_n (pc := 60) C dL_areTotalsSo_60 rfl ?_
      refine zj_iload_n (pc := 61) C dL_areTotalsSo_61 rfl ?_
      refine zj_iload (pc := 62) C dL_areTotalsSo_62 rfl ?_
      refine zj_iload_n (pc := 64) C dL_areTotalsSo_64 rfl ?_
      refine zj_callQ (pc := 65) C kv_L_50 (q_WI hu45) dL_areTotalsSo_65 0 rfl rfl rfl rfl rfl rfl rfl (OB_rec hu45) rfl (fun u46 hu46 => ?_)
      refine zj_blk (bs' := [u46]) rfl ?_
      refine zj_top (x' := (-5 : Int32)) ((v_WI hW hd4 hx hc14).trans (nFar_f hwi)) ?_
      refine zj_istore (pc := 68) C dL_areTotalsSo_68 (Nat.le_of_ble_eq_true rfl) ?_
      refine zj_aload_n (pc := 70) C dL_areTotalsSo_70 rfl ?_
      refine zj_iload (pc := 71) C dL_areTotalsSo_71 rfl ?_
      refine zj_iload_n (pc := 73) C dL_areTotalsSo_73 rfl ?_
      refine zj_callQ (pc := 74) C kv_L_56 (q_SH hu46) dL_areTotalsSo_74 0 rfl rfl rfl rfl rfl rfl rfl (OB_rec hu46) rfl (fun u47 hu47 => ?_)
      refine zj_blk (bs' := [u47]) rfl ?_
      refine zj_top (x' := nI (shD4 g al xx)) ((v_SH hv hW hx ha).trans (nFar_t (by show shD4 g al xx < 1000000; omega))) ?_
      refine zj_istore (pc := 77) C dL_areTotalsSo_77 (Nat.le_of_ble_eq_true rfl) ?_
      refine zj_aload_n (pc := 79) C dL_areTotalsSo_79 rfl ?_
      refine zj_iload (pc := 80) C dL_areTotalsSo_80 rfl ?_
      refine zj_iconst (pc := 82) (v := 1) C dL_areTotalsSo_82 (by decide) ?_
      refine zj_callQ (pc := 83) C kv_L_41 (q_CO hu47) dL_areTotalsSo_83 0 rfl rfl rfl rfl rfl rfl rfl (OB_rec hu47) rfl (fun u48 hu48 => ?_)
      refine zj_blk (bs' := [u48]) rfl ?_
      refine zj_top (x' := nI (dsV (dst g) xx)) (v_CO1 hW hx) ?_
      refine zj_iconst (pc := 86) (v := 1) C dL_areTotalsSo_86 (by decide) ?_
      refine zj_iand (pc := 87) C dL_areTotalsSo_87 ?_
      refine zj_top (x' := nI (dsV (dst g) xx % 2)) (and_1 ⟨dsV (dst g) xx, hds16⟩) ?_
      refine zj_iconst (pc := 88) (v := 1) C dL_areTotalsSo_88 (by decide) ?_
      refine zj_icmp_ne (pc := 89) 96 C dL_areTotalsSo_89 (by decide) (fun cq_ => absurd ((nI_eq (a := dsV (dst g) xx % 2) (b := 1) (by omega) (by omega)).mpr (by omega)) cq_) (fun _ => ?_)
      refine zj_iconst (pc := 92) (v := 1) C dL_areTotalsSo_92 (by decide) ?_
      refine zj_goto (pc := 93) (tgt := 97) C dL_areTotalsSo_93 (by decide) ?_
      refine zj_istore (pc := 97) C dL_areTotalsSo_97 (Nat.le_of_ble_eq_true rfl) ?_
      refine zj_iload (pc := 99) C dL_areTotalsSo_99 rfl ?_
      refine zj_iload (pc := 101) C dL_areTotalsSo_101 rfl ?_
      refine zj_if_lt (pc := 103) 110 C dL_areTotalsSo_103 (by decide) (fun cq_ => absurd cq_ (mt (nI_ltI (a := SS g al xx) (b := 0) (by omega) (by omega)).mp (by omega))) (fun _ => ?_)
      refine zj_iconst (pc := 106) (v := 1) C dL_areTotalsSo_106 (by decide) ?_
      refine zj_goto (pc := 107) (tgt := 111) C dL_areTotalsSo_107 (by decide) ?_
      refine zj_iadd (pc := 111) C dL_areTotalsSo_111 ?_
      refine zj_top (x' := nI (cntB (fun y => !(RR g al y == 0)) (xx + 1))) (by rw [cntB_t (p := fun y => !(RR g al y == 0)) (by simp [hr])]; exact nI_1 _) ?_
      refine zj_istore (pc := 112) C dL_areTotalsSo_112 (Nat.le_of_ble_eq_true rfl) ?_
      refine zj_iload (pc := 114) C dL_areTotalsSo_114 rfl ?_
      refine zj_if_ge (pc := 116) 186 C dL_areTotalsSo_116 (by decide) (fun _ => ?_) (fun cq_ => absurd ((nI_leI (a := 0) (b := SS g al xx) (by omega) (by omega)).mpr (by omega)) cq_)
      refine zj_iload (pc := 186) C dL_areTotalsSo_186 rfl ?_
      refine zj_if_eq (pc := 188) 346 C dL_areTotalsSo_188 (by decide) (fun cq_ => absurd cq_ (by decide)) (fun _ => ?_)
      refine zj_iload (pc := 191) C dL_areTotalsSo_191 rfl ?_
      refine zj_iconst (pc := 193) (v := 1) C dL_areTotalsSo_193 (by decide) ?_
      refine zj_icmp_ne (pc := 194) 201 C dL_areTotalsSo_194 (by decide) (fun _ => ?_) (fun cq_ => absurd cq_ (by decide))
      refine zj_iconst (pc := 201) (v := 0) C dL_areTotalsSo_201 (by decide) ?_
      refine zj_iload (pc := 202) C dL_areTotalsSo_202 rfl ?_
      refine zj_if_lt (pc := 204) 211 C dL_areTotalsSo_204 (by decide) (fun _ => ?_) (fun cq_ => absurd (by decide) cq_)
      refine zj_iconst (pc := 211) (v := 0) C dL_areTotalsSo_211 (by decide) ?_
      refine zj_icmp_ne (pc := 212) 346 C dL_areTotalsSo_212 (by decide) (fun cq_ => absurd (by decide) cq_) (fun _ => ?_)
      refine zj_iload (pc := 215) C dL_areTotalsSo_215 rfl ?_
      refine zj_iconst (pc := 217) (v := 1) C dL_areTotalsSo_217 (by decide) ?_
      refine zj_icmp_ne (pc := 218) 235 C dL_areTotalsSo_218 (by decide) (fun _ => ?_) (fun cq_ => absurd cq_ (by decide))
      refine zj_iload (pc := 235) C dL_areTotalsSo_235 rfl ?_
      refine zj_iconst (pc := 237) (v := 1) C dL_areTotalsSo_237 (by decide) ?_
      refine zj_icmp_eq (pc := 238) 257 C dL_areTotalsSo_238 (by decide) (fun cq_ => absurd cq_ (by decide)) (fun _ => ?_)
      refine zj_iload (pc := 241) C dL_areTotalsSo_241 rfl ?_
      refine zj_iconst (pc := 243) (v := 2) C dL_areTotalsSo_243 (by decide) ?_
      refine zj_icmp_ne (pc := 244) 251 C dL_areTotalsSo_244 (by decide) (fun cq_ => absurd (by decide) cq_) (fun _ => ?_)
      refine zj_iconst (pc := 247) (v := 1) C dL_areTotalsSo_247 (by decide) ?_
      refine zj_goto (pc := 248) (tgt := 252) C dL_areTotalsSo_248 (by decide) ?_
      refine zj_iload (pc := 252) C dL_areTotalsSo_252 rfl ?_
      refine zj_icmp_ne (pc := 254) 346 C dL_areTotalsSo_254 (by decide) (fun cq_ => absurd (by decide) cq_) (fun _ => ?_)
      refine zj_iload (pc := 257) C dL_areTotalsSo_257 rfl ?_
      refine zj_iconst (pc := 259) (v := 2) C dL_areTotalsSo_259 (by decide) ?_
      refine zj_icmp_ne (pc := 260) 267 C dL_areTotalsSo_260 (by decide) (fun cq_ => absurd (by decide) cq_) (fun _ => ?_)
      refine zj_iload_n (pc := 263) C dL_areTotalsSo_263 rfl ?_
      refine zj_if_le (pc := 264) 346 C dL_areTotalsSo_264 (by decide) (fun cq_ => absurd cq_ (mt (nI_leI (a := aD g al) (b := 0) (by omega) (by omega)).mp (by omega))) (fun _ => ?_)
      refine zj_iload (pc := 267) C dL_areTotalsSo_267 rfl ?_
      refine zj_if_lt (pc := 269) 346 C dL_areTotalsSo_269 (by decide) (fun cq_ => absurd cq_ (mt (nI_ltI (a := shD4 g al xx) (b := 0) (by omega) (by omega)).mp (by omega))) (fun _ => ?_)
      refine zj_iload (pc := 272) C dL_areTotalsSo_272 rfl ?_
      refine zj_iload (pc := 274) C dL_areTotalsSo_274 rfl ?_
      refine zj_icmp_lt (pc := 276) 346 C dL_areTotalsSo_276 (by decide) (fun cq_ => absurd cq_ (mt (nI_ltI (a := SS g al xx) (b := shD4 g al xx) (by omega) (by omega)).mp (by omega))) (fun _ => ?_)
      refine zj_aload_n (pc := 279) C dL_areTotalsSo_279 rfl ?_
      refine zj_iload (pc := 280) C dL_areTotalsSo_280 rfl ?_
      refine zj_iload_n (pc := 282) C dL_areTotalsSo_282 rfl ?_
      refine zj_callQ (pc := 283) C kv_L_62 (q_ST hu48) dL_areTotalsSo_283 0 rfl rfl rfl rfl rfl rfl rfl (OB_rec hu48) rfl (fun u49 hu49 => ?_)
      refine zj_blk (bs' := [u49]) rfl ?_
      refine zj_fconst1 (pc := 286) C dL_areTotalsSo_286 ?_
      refine zj_fcmpl (pc := 287) C dL_areTotalsSo_287 ?_
      refine zj_if_lt (pc := 288) 346 C dL_areTotalsSo_288 (by decide) (fun cq_ => absurd cq_ (v_STs hv hW hx ha hr0)) (fun _ => ?_)
      refine zj_iload (pc := 291) C dL_areTotalsSo_291 rfl ?_
      refine zj_iconst (pc := 293) (v := 1) C dL_areTotalsSo_293 (by decide) ?_
      refine zj_icmp_ne (pc := 294) 311 C dL_areTotalsSo_294 (by decide) (fun _ => ?_) (fun cq_ => absurd cq_ (by decide))
      refine zj_iload (pc := 311) C dL_areTotalsSo_311 rfl ?_
      refine zj_if_le (pc := 313) 346 C dL_areTotalsSo_313 (by decide) (fun cq_ => absurd cq_ (mt (nI_leI (a := seN g W xx al 24) (b := 0) (by omega) (by omega)).mp (by omega))) (fun _ => ?_)
      refine zj_aload_n (pc := 316) C dL_areTotalsSo_316 rfl ?_
      refine zj_iload (pc := 317) C dL_areTotalsSo_317 rfl ?_
      refine zj_iload_n (pc := 319) C dL_areTotalsSo_319 rfl ?_
      refine zj_iconst (pc := 320) (v := 2) C dL_areTotalsSo_320 (by decide) ?_
      refine zj_callQ (pc := 321) C kv_L_53 (q_TO hu49) dL_areTotalsSo_321 0 rfl rfl rfl rfl rfl rfl rfl (OB_rec hu49) rfl (fun u50 hu50 => ?_)
      refine zj_blk (bs' := [u50]) rfl ?_
      refine zj_top (x' := nI (z)) ((v_TO2 hv hW hx ha hr0).trans hz) ?_
      refine zj_iload (pc := 324) C dL_areTotalsSo_324 rfl ?_
      refine zj_if_ne (pc := 326) 334 C dL_areTotalsSo_326 (by decide) (fun _ => ?_) (fun cq_ => absurd cq_ (mt (nI_eq (a := seN g W xx al 24) (b := 0) (by omega) (by omega)).mp (by omega)))
      refine zj_iload (pc := 334) C dL_areTotalsSo_334 rfl ?_
      refine zj_callSF (pc := 336) C kv_L_67 (m_L_lowest (n := seN g W xx al 24) (z := z) hs14 hz14 hbz hbj) dL_areTotalsSo_336 rfl rfl rfl rfl rfl rfl ?_
      refine zj_icmp_ne (pc := 339) 346 C dL_areTotalsSo_339 (by decide) (fun cq_ => absurd rfl cq_) (fun _ => ?_)
      refine zj_iconst (pc := 342) (v := 1) C dL_areTotalsSo_342 (by decide) ?_
      refine zj_goto (pc := 343) (tgt := 347) C dL_areTotalsSo_343 (by decide) ?_
      refine zj_istore (pc := 347) C dL_areTotalsSo_347 (Nat.le_of_ble_eq_true rfl) ?_
      refine zj_iconst (pc := 349) (v := 0) C dL_areTotalsSo_349 (by decide) ?_
      refine zj_istore (pc := 350) C dL_areTotalsSo_350 (Nat.le_of_ble_eq_true rfl) ?_
      refine zj_keep [true, true, true, true, true, true, true, true, true, true, true, true, false, true] ?_
      refine zj_loopW (σ := Nat × va_W) (fun x => x.1 ≤ 14 ∧ OB G a g hn F W x.2) (fun x => 14 - x.1) (fun x => [x.2]) (fun x => [some (.ref a), some (.int (nI (al))), some (.int (nI (aC g al))), some (.int (nI (aD g al))), some (.int (nI (cntB (fun y => !(RR g al y == 0)) (xx + 1)))), some (.int (1)), some (.int (nI (xx))), some (.int (nI (SS g al xx))), some (.int (2)), some (.int (nI (seN g W xx al 24))), some (.int (-5)), some (.int (nI (shD4 g al xx))), none, some (.int (nI (x.1)))]) ?_ (0, u50) ⟨Nat.zero_le _, hu50⟩
      rintro ⟨t, y0⟩ ⟨ht, hy0⟩ iht
      have ht : t ≤ 14 := ht
      refine zj_eq (bs' := [y0]) (lo' := [some (.ref a), some (.int (nI (al))), some (.int (nI (aC g al))), some (.int (nI (aD g al))), some (.int (nI (cntB (fun y => !(RR g al y == 0)) (xx + 1)))), some (.int (1)), some (.int (nI (xx))), some (.int (nI (SS g al xx))), some (.int (2)), some (.int (nI (seN g W xx al 24))), some (.int (-5)), some (.int (nI (shD4 g al xx))), none, some (.int (nI (t)))]) rfl rfl rfl ?_
      refine zj_iload (pc := 352) C dL_areTotalsSo_352 rfl ?_
      refine zj_bipush (pc := 354) (v := 14) C dL_areTotalsSo_354 (by decide) ?_
      refine zj_icmp_ge (pc := 356) 450 C dL_areTotalsSo_356 (by decide) (fun c_356 => ?_) (fun c_356 => ?_)
      · have wf := wk_f hv hW hx ha hr0
        rcases hwk : wkG g W al 31 xx (alC g al 1) 0 with _ | ⟨n1, len, ps⟩
        · refine zj_aload_n (pc := 450) C dL_areTotalsSo_450 rfl ?_
          refine zj_iload (pc := 451) C dL_areTotalsSo_451 rfl ?_
          refine zj_iload_n (pc := 453) C dL_areTotalsSo_453 rfl ?_
          refine zj_iconst (pc := 454) (v := 0) C dL_areTotalsSo_454 (by decide) ?_
          refine zj_callQ (pc := 455) C kv_L_59 (q_WK hy0) dL_areTotalsSo_455 0 rfl rfl rfl rfl rfl rfl rfl (OB_rec hy0) rfl (fun u51 hu51 => ?_)
          refine zj_blk (bs' := [u51]) rfl ?_
          refine zj_top (x' := (-5 : Int32)) ((v_WK hv (c := 0) hx ha (by decide)).trans (wx_n hwk)) ?_
          refine zj_istore (pc := 458) C dL_areTotalsSo_458 (Nat.le_of_ble_eq_true rfl) ?_
          refine zj_iload (pc := 460) C dL_areTotalsSo_460 rfl ?_
          refine zj_if_eq (pc := 462) 582 C dL_areTotalsSo_462 (by decide) (fun cq_ => absurd cq_ (by decide)) (fun _ => ?_)
          refine zj_iload (pc := 465) C dL_areTotalsSo_465 rfl ?_
          refine zj_bipush (pc := 467) (v := (-5)) C dL_areTotalsSo_467 (by decide) ?_
          refine zj_icmp_eq (pc := 469) 554 C dL_areTotalsSo_469 (by decide) (fun _ => ?_) (fun cq_ => absurd (by decide) cq_)
          refine zj_iload (pc := 554) C dL_areTotalsSo_554 rfl ?_
          refine zj_iconst (pc := 556) (v := 1) C dL_areTotalsSo_556 (by decide) ?_
          refine zj_icmp_ne (pc := 557) 578 C dL_areTotalsSo_557 (by decide) (fun _ => ?_) (fun cq_ => absurd cq_ (by decide))
          refine zj_iconst (pc := 578) (v := 1) C dL_areTotalsSo_578 (by decide) ?_
          refine zj_goto (pc := 579) (tgt := 583) C dL_areTotalsSo_579 (by decide) ?_
          refine zj_istore (pc := 583) C dL_areTotalsSo_583 (Nat.le_of_ble_eq_true rfl) ?_
          refine zj_iinc (pc := 585) (v := nI (xx + 1)) C dL_areTotalsSo_585 rfl (nI_1 _) ?_
          refine zj_goto (pc := 588) (tgt := 23) C dL_areTotalsSo_588 (by decide) ?_
          refine zj_keep [true, true, true, true, true, true, true, false, false, false, false, false, false, false] ?_
          exact ih (xx + 1, u51) ⟨by show xx + 1 ≤ 14; omega, hu51⟩ (by show 14 - (xx + 1) < 14 - xx; omega)
        · rw [hwk] at wf
          obtain ⟨w1, w2, w3, w4, w5, w6, w7, w8⟩ := wf
          refine zj_aload_n (pc := 450) C dL_areTotalsSo_450 rfl ?_
          refine zj_iload (pc := 451) C dL_areTotalsSo_451 rfl ?_
          refine zj_iload_n (pc := 453) C dL_areTotalsSo_453 rfl ?_
          refine zj_iconst (pc := 454) (v := 0) C dL_areTotalsSo_454 (by decide) ?_
          refine zj_callQ (pc := 455) C kv_L_59 (q_WK hy0) dL_areTotalsSo_455 0 rfl rfl rfl rfl rfl rfl rfl (OB_rec hy0) rfl (fun u52 hu52 => ?_)
          refine zj_blk (bs' := [u52]) rfl ?_
          refine zj_top (x' := nI (n1)) ((v_WK hv (c := 0) hx ha (by decide)).trans (wx_0 hwk)) ?_
          refine zj_istore (pc := 458) C dL_areTotalsSo_458 (Nat.le_of_ble_eq_true rfl) ?_
          refine zj_iload (pc := 460) C dL_areTotalsSo_460 rfl ?_
          refine zj_if_eq (pc := 462) 582 C dL_areTotalsSo_462 (by decide) (fun cq_ => absurd cq_ (by decide)) (fun _ => ?_)
          refine zj_iload (pc := 465) C dL_areTotalsSo_465 rfl ?_
          refine zj_bipush (pc := 467) (v := (-5)) C dL_areTotalsSo_467 (by decide) ?_
          refine zj_icmp_eq (pc := 469) 554 C dL_areTotalsSo_469 (by decide) (fun cq_ => absurd cq_ (nI_ne5 (a := n1) (by omega))) (fun _ => ?_)
          refine zj_iload (pc := 472) C dL_areTotalsSo_472 rfl ?_
          refine zj_if_lt (pc := 474) 582 C dL_areTotalsSo_474 (by decide) (fun cq_ => absurd cq_ (mt (nI_ltI (a := n1) (b := 0) (by omega) (by omega)).mp (by omega))) (fun _ => ?_)
          refine zj_iload (pc := 477) C dL_areTotalsSo_477 rfl ?_
          refine zj_bipush (pc := 479) (v := 30) C dL_areTotalsSo_479 (by decide) ?_
          refine zj_icmp_gt (pc := 481) 582 C dL_areTotalsSo_481 (by decide) (fun cq_ => absurd cq_ (mt (nI_ltI (a := 30) (b := n1) (by omega) (by omega)).mp (by omega))) (fun _ => ?_)
          refine zj_aload_n (pc := 484) C dL_areTotalsSo_484 rfl ?_
          refine zj_iload (pc := 485) C dL_areTotalsSo_485 rfl ?_
          refine zj_iload_n (pc := 487) C dL_areTotalsSo_487 rfl ?_
          refine zj_iconst (pc := 488) (v := 1) C dL_areTotalsSo_488 (by decide) ?_
          refine zj_callQ (pc := 489) C kv_L_59 (q_WK hu52) dL_areTotalsSo_489 0 rfl rfl rfl rfl rfl rfl rfl (OB_rec hu52) rfl (fun u53 hu53 => ?_)
          refine zj_blk (bs' := [u53]) rfl ?_
          refine zj_top (x' := nI (len)) ((v_WK hv (c := 1) hx ha (by decide)).trans (wx_1 hwk)) ?_
          refine zj_iload (pc := 492) C dL_areTotalsSo_492 rfl ?_
          refine zj_icmp_lt (pc := 494) 582 C dL_areTotalsSo_494 (by decide) (fun cq_ => absurd cq_ (mt (nI_ltI (a := len) (b := shD4 g al xx) (by omega) (by omega)).mp (by omega))) (fun _ => ?_)
          refine zj_aload_n (pc := 497) C dL_areTotalsSo_497 rfl ?_
          refine zj_iload (pc := 498) C dL_areTotalsSo_498 rfl ?_
          refine zj_iload_n (pc := 500) C dL_areTotalsSo_500 rfl ?_
          refine zj_iconst (pc := 501) (v := 2) C dL_areTotalsSo_501 (by decide) ?_
          refine zj_callQ (pc := 502) C kv_L_59 (q_WK hu53) dL_areTotalsSo_502 0 rfl rfl rfl rfl rfl rfl rfl (OB_rec hu53) rfl (fun u54 hu54 => ?_)
          refine zj_blk (bs' := [u54]) rfl ?_
          refine zj_top (x' := nI (ps)) ((v_WK hv (c := 2) hx ha (by decide)).trans (wx_2 hwk)) ?_
          refine zj_iload_n (pc := 505) C dL_areTotalsSo_505 rfl ?_
          refine zj_ishr (pc := 506) C dL_areTotalsSo_506 ?_
          refine zj_iconst (pc := 507) (v := 1) C dL_areTotalsSo_507 (by decide) ?_
          refine zj_iand (pc := 508) C dL_areTotalsSo_508 ?_
          refine zj_top (x' := nI (ps / 2 ^ aC g al % 2)) (nI_bit (by omega) (by omega)) ?_
          refine zj_iconst (pc := 509) (v := 1) C dL_areTotalsSo_509 (by decide) ?_
          refine zj_icmp_ne (pc := 510) 582 C dL_areTotalsSo_510 (by decide) (fun cq_ => absurd ((nI_eq (a := ps / 2 ^ aC g al % 2) (b := 1) (by omega) (by omega)).mpr (by omega)) cq_) (fun _ => ?_)
          refine zj_aload_n (pc := 513) C dL_areTotalsSo_513 rfl ?_
          refine zj_iload (pc := 514) C dL_areTotalsSo_514 rfl ?_
          refine zj_iload_n (pc := 516) C dL_areTotalsSo_516 rfl ?_
          refine zj_iconst (pc := 517) (v := 2) C dL_areTotalsSo_517 (by decide) ?_
          refine zj_callQ (pc := 518) C kv_L_59 (q_WK hu54) dL_areTotalsSo_518 0 rfl rfl rfl rfl rfl rfl rfl (OB_rec hu54) rfl (fun u55 hu55 => ?_)
          refine zj_blk (bs' := [u55]) rfl ?_
          refine zj_top (x' := nI (ps)) ((v_WK hv (c := 2) hx ha (by decide)).trans (wx_2 hwk)) ?_
          refine zj_iload (pc := 521) C dL_areTotalsSo_521 rfl ?_
          refine zj_ishr (pc := 523) C dL_areTotalsSo_523 ?_
          refine zj_iconst (pc := 524) (v := 1) C dL_areTotalsSo_524 (by decide) ?_
          refine zj_iand (pc := 525) C dL_areTotalsSo_525 ?_
          refine zj_top (x' := nI (ps / 2 ^ xx % 2)) (nI_bit (by omega) (by omega)) ?_
          refine zj_iconst (pc := 526) (v := 1) C dL_areTotalsSo_526 (by decide) ?_
          refine zj_icmp_ne (pc := 527) 582 C dL_areTotalsSo_527 (by decide) (fun cq_ => absurd ((nI_eq (a := ps / 2 ^ xx % 2) (b := 1) (by omega) (by omega)).mpr (by omega)) cq_) (fun _ => ?_)
          refine zj_iload (pc := 530) C dL_areTotalsSo_530 rfl ?_
          refine zj_if_ne (pc := 532) 539 C dL_areTotalsSo_532 (by decide) (fun _ => ?_) (fun cq_ => absurd cq_ (mt (nI_eq (a := n1) (b := 0) (by omega) (by omega)).mp (by omega)))
          refine zj_iconst (pc := 539) (v := 0) C dL_areTotalsSo_539 (by decide) ?_
          refine zj_iload (pc := 540) C dL_areTotalsSo_540 rfl ?_
          refine zj_iload_n (pc := 542) C dL_areTotalsSo_542 rfl ?_
          refine zj_icmp_ne (pc := 543) 550 C dL_areTotalsSo_543 (by decide) (fun _ => ?_) (fun cq_ => absurd cq_ (mt (nI_eq (a := xx) (b := aC g al) (by omega) (by omega)).mp (by omega)))
          refine zj_iconst (pc := 550) (v := 0) C dL_areTotalsSo_550 (by decide) ?_
          refine zj_icmp_ne (pc := 551) 582 C dL_areTotalsSo_551 (by decide) (fun cq_ => absurd (by decide) cq_) (fun _ => ?_)
          refine zj_iload (pc := 554) C dL_areTotalsSo_554 rfl ?_
          refine zj_iconst (pc := 556) (v := 1) C dL_areTotalsSo_556 (by decide) ?_
          refine zj_icmp_ne (pc := 557) 578 C dL_areTotalsSo_557 (by decide) (fun _ => ?_) (fun cq_ => absurd cq_ (by decide))
          refine zj_iconst (pc := 578) (v := 1) C dL_areTotalsSo_578 (by decide) ?_
          refine zj_goto (pc := 579) (tgt := 583) C dL_areTotalsSo_579 (by decide) ?_
          refine zj_istore (pc := 583) C dL_areTotalsSo_583 (Nat.le_of_ble_eq_true rfl) ?_
          refine zj_iinc (pc := 585) (v := nI (xx + 1)) C dL_areTotalsSo_585 rfl (nI_1 _) ?_
          refine zj_goto (pc := 588) (tgt := 23) C dL_areTotalsSo_588 (by decide) ?_
          refine zj_keep [true, true, true, true, true, true, true, false, false, false, false, false, false, false] ?_
          exact ih (xx + 1, u55) ⟨by show xx + 1 ≤ 14; omega, hu55⟩ (by show 14 - (xx + 1) < 14 - xx; omega)
      · refine zj_iload (pc := 359) C dL_areTotalsSo_359 rfl ?_
        refine zj_if_eq (pc := 361) 441 C dL_areTotalsSo_361 (by decide) (fun cq_ => absurd cq_ (by decide)) (fun _ => ?_)
        have ht14 : t < 14 := by have := mt (nI_leI (a := 14) (b := t) (by omega) (by omega)).mpr c_356; omega
        by_cases hbt : bitB (seN g W xx al 24) t = true
        · have hb1 := bit_1 hbt
          obtain ⟨i0, hi0, hti, hj, hds⟩ := steps_b hv hW hx ha hbt
          rcases hds with q | ⟨-, sd⟩ | q
          · rw [hr] at q; exact absurd q.1 (by decide)
          rotate_left
          · rw [hr] at q; exact absurd q.1 (by decide)
          refine zj_iload (pc := 364) C dL_areTotalsSo_364 rfl ?_
          refine zj_iload (pc := 366) C dL_areTotalsSo_366 rfl ?_
          refine zj_ishr (pc := 368) C dL_areTotalsSo_368 ?_
          refine zj_iconst (pc := 369) (v := 1) C dL_areTotalsSo_369 (by decide) ?_
          refine zj_iand (pc := 370) C dL_areTotalsSo_370 ?_
          refine zj_top (x' := nI (seN g W xx al 24 / 2 ^ t % 2)) (nI_bit (by omega) (by omega)) ?_
          refine zj_if_eq (pc := 371) 437 C dL_areTotalsSo_371 (by decide) (fun cq_ => absurd cq_ (mt (nI_eq (a := seN g W xx al 24 / 2 ^ t % 2) (b := 0) (by omega) (by omega)).mp (by omega))) (fun _ => ?_)
          refine zj_aload_n (pc := 374) C dL_areTotalsSo_374 rfl ?_
          refine zj_iload (pc := 375) C dL_areTotalsSo_375 rfl ?_
          refine zj_iload (pc := 377) C dL_areTotalsSo_377 rfl ?_
          refine zj_iload (pc := 379) C dL_areTotalsSo_379 rfl ?_
          refine zj_iconst (pc := 381) (v := 1) C dL_areTotalsSo_381 (by decide) ?_
          refine zj_icmp_ne (pc := 382) 389 C dL_areTotalsSo_382 (by decide) (fun _ => ?_) (fun cq_ => absurd cq_ (by decide))
          refine zj_iload (pc := 389) C dL_areTotalsSo_389 rfl ?_
          refine zj_iconst (pc := 391) (v := 2) C dL_areTotalsSo_391 (by decide) ?_
          refine zj_icmp_ne (pc := 392) 399 C dL_areTotalsSo_392 (by decide) (fun cq_ => absurd (by decide) cq_) (fun _ => ?_)
          refine zj_iconst (pc := 395) (v := 0) C dL_areTotalsSo_395 (by decide) ?_
          refine zj_goto (pc := 396) (tgt := 400) C dL_areTotalsSo_396 (by decide) ?_
          refine zj_callS1 (pc := 400) C kv_L_70 (zY_of (m_L_isLane hy0 hi0 hti hj (Or.inr ⟨by decide, by rw [sd]; rfl⟩))) dL_areTotalsSo_400 0 rfl rfl rfl rfl rfl rfl rfl (fun u56 hu56 => ?_)
          refine zj_blk (bs' := [u56]) rfl ?_
          refine zj_if_eq (pc := 403) 441 C dL_areTotalsSo_403 (by decide) (fun cq_ => absurd cq_ (by decide)) (fun _ => ?_)
          refine zj_iload (pc := 406) C dL_areTotalsSo_406 rfl ?_
          refine zj_iconst (pc := 408) (v := 1) C dL_areTotalsSo_408 (by decide) ?_
          refine zj_icmp_ne (pc := 409) 437 C dL_areTotalsSo_409 (by decide) (fun _ => ?_) (fun cq_ => absurd cq_ (by decide))
          refine zj_iconst (pc := 437) (v := 1) C dL_areTotalsSo_437 (by decide) ?_
          refine zj_goto (pc := 438) (tgt := 442) C dL_areTotalsSo_438 (by decide) ?_
          refine zj_istore (pc := 442) C dL_areTotalsSo_442 (Nat.le_of_ble_eq_true rfl) ?_
          refine zj_iinc (pc := 444) (v := nI (t + 1)) C dL_areTotalsSo_444 rfl (nI_1 _) ?_
          refine zj_goto (pc := 447) (tgt := 352) C dL_areTotalsSo_447 (by decide) ?_
          refine zj_keep [true, true, true, true, true, true, true, true, true, true, true, true, false, true] ?_
          exact iht (t + 1, u56) ⟨by show t + 1 ≤ 14; omega, hu56⟩ (by show 14 - (t + 1) < 14 - t; omega)
        · have hb1 := bit_0 hbt
          refine zj_iload (pc := 364) C dL_areTotalsSo_364 rfl ?_
          refine zj_iload (pc := 366) C dL_areTotalsSo_366 rfl ?_
          refine zj_ishr (pc := 368) C dL_areTotalsSo_368 ?_
          refine zj_iconst (pc := 369) (v := 1) C dL_areTotalsSo_369 (by decide) ?_
          refine zj_iand (pc := 370) C dL_areTotalsSo_370 ?_
          refine zj_top (x' := nI (seN g W xx al 24 / 2 ^ t % 2)) (nI_bit (by omega) (by omega)) ?_
          refine zj_if_eq (pc := 371) 437 C dL_areTotalsSo_371 (by decide) (fun _ => ?_) (fun cq_ => absurd ((nI_eq (a := seN g W xx al 24 / 2 ^ t % 2) (b := 0) (by omega) (by omega)).mpr (by omega)) cq_)
          refine zj_iconst (pc := 437) (v := 1) C dL_areTotalsSo_437 (by decide) ?_
          refine zj_goto (pc := 438) (tgt := 442) C dL_areTotalsSo_438 (by decide) ?_
          refine zj_istore (pc := 442) C dL_areTotalsSo_442 (Nat.le_of_ble_eq_true rfl) ?_
          refine zj_iinc (pc := 444) (v := nI (t + 1)) C dL_areTotalsSo_444 rfl (nI_1 _) ?_
          refine zj_goto (pc := 447) (tgt := 352) C dL_areTotalsSo_447 (by decide) ?_
          refine zj_keep [true, true, true, true, true, true, true, true, true, true, true, true, false, true] ?_
          exact iht (t + 1, y0) ⟨by show t + 1 ≤ 14; omega, hy0⟩ (by show 14 - (t + 1) < 14 - t; omega)
    · obtain ⟨hr, ⟨hne, hs0, hs14, z, hz, hz14, hbz, hbj⟩, hwi, h00⟩ := h3
      have hbk := (bit_d (g := g) (d := 0) (c := xx) (by decide)).2 h00
      refine zj_aload_n (pc := 30) C dL_areTotalsSo_30 rfl ?_
      refine zj_iload (pc := 31) C dL_areTotalsSo_31 rfl ?_
      refine zj_iload_n (pc := 33) C dL_areTotalsSo_33 rfl ?_
      refine zj_iconst (pc := 34) (v := 0) C dL_areTotalsSo_34 (by decide) ?_
      refine zj_callQ (pc := 35) C kv_L_53 (q_TO hv0) dL_areTotalsSo_35 0 rfl rfl rfl rfl rfl rfl rfl (OB_rec hv0) rfl (fun u57 hu57 => ?_)
      refine zj_blk (bs' := [u57]) rfl ?_
      refine zj_top (x' := nI (SS g al xx)) (v_TO0 hv hW hx ha hr0) ?_
      refine zj_istore (pc := 38) C dL_areTotalsSo_38 (Nat.le_of_ble_eq_true rfl) ?_
      refine zj_aload_n (pc := 40) C dL_areTotalsSo_40 rfl ?_
      refine zj_iload (pc := 41) C dL_areTotalsSo_41 rfl ?_
      refine zj_iload_n (pc := 43) C dL_areTotalsSo_43 rfl ?_
      refine zj_iconst (pc := 44) (v := 1) C dL_areTotalsSo_44 (by decide) ?_
      refine zj_callQ (pc := 45) C kv_L_53 (q_TO hu57) dL_areTotalsSo_45 0 rfl rfl rfl rfl rfl rfl rfl (OB_rec hu57) rfl (fun u58 hu58 => ?_)
      refine zj_blk (bs' := [u58]) rfl ?_
      refine zj_top (x' := (3 : Int32)) ((v_TO1 hv hW hx ha hr0).trans (by rw [hr]; rfl)) ?_
      refine zj_istore (pc := 48) C dL_areTotalsSo_48 (Nat.le_of_ble_eq_true rfl) ?_
      refine zj_aload_n (pc := 50) C dL_areTotalsSo_50 rfl ?_
      refine zj_iload (pc := 51) C dL_areTotalsSo_51 rfl ?_
      refine zj_iload_n (pc := 53) C dL_areTotalsSo_53 rfl ?_
      refine zj_iconst (pc := 54) (v := 3) C dL_areTotalsSo_54 (by decide) ?_
      refine zj_callQ (pc := 55) C kv_L_53 (q_TO hu58) dL_areTotalsSo_55 0 rfl rfl rfl rfl rfl rfl rfl (OB_rec hu58) rfl (fun u59 hu59 => ?_)
      refine zj_blk (bs' := [u59]) rfl ?_
      refine zj_top (x' := nI (seN g W xx al 24)) (v_TO3 hv hW hx ha hr0) ?_
      refine zj_istore (pc := 58) C dL_areTotalsSo_58 (Nat.le_of_ble_eq_true rfl) ?_
      refine zj_aload_n (pc := 60) C dL_areTotalsSo_60 rfl ?_
      refine zj_iload_n (pc := 61) C dL_areTotalsSo_61 rfl ?_
      refine zj_iload (pc := 62) C dL_areTotalsSo_62 rfl ?_
      refine zj_iload_n (pc := 64) C dL_areTotalsSo_64 rfl ?_
      refine zj_callQ (pc := 65) C kv_L_50 (q_WI hu59) dL_areTotalsSo_65 0 rfl rfl rfl rfl rfl rfl rfl (OB_rec hu59) rfl (fun u60 hu60 => ?_)
      refine zj_blk (bs' := [u60]) rfl ?_
      refine zj_top (x' := (-5 : Int32)) ((v_WI hW hd4 hx hc14).trans (nFar_f hwi)) ?_
      refine zj_istore (pc := 68) C dL_areTotalsSo_68 (Nat.le_of_ble_eq_true rfl) ?_
      refine zj_aload_n (pc := 70) C dL_areTotalsSo_70 rfl ?_
      refine zj_iload (pc := 71) C dL_areTotalsSo_71 rfl ?_
      refine zj_iload_n (pc := 73) C dL_areTotalsSo_73 rfl ?_
      refine zj_callQ (pc := 74) C kv_L_56 (q_SH hu60) dL_areTotalsSo_74 0 rfl rfl rfl rfl rfl rfl rfl (OB_rec hu60) rfl (fun u61 hu61 => ?_)
      refine zj_blk (bs' := [u61]) rfl ?_
      refine zj_top (x' := nI (shD4 g al xx)) ((v_SH hv hW hx ha).trans (nFar_t (by show shD4 g al xx < 1000000; omega))) ?_
      refine zj_istore (pc := 77) C dL_areTotalsSo_77 (Nat.le_of_ble_eq_true rfl) ?_
      refine zj_aload_n (pc := 79) C dL_areTotalsSo_79 rfl ?_
      refine zj_iload (pc := 80) C dL_areTotalsSo_80 rfl ?_
      refine zj_iconst (pc := 82) (v := 1) C dL_areTotalsSo_82 (by decide) ?_
      refine zj_callQ (pc := 83) C kv_L_41 (q_CO hu61) dL_areTotalsSo_83 0 rfl rfl rfl rfl rfl rfl rfl (OB_rec hu61) rfl (fun u62 hu62 => ?_)
      refine zj_blk (bs' := [u62]) rfl ?_
      refine zj_top (x' := nI (dsV (dst g) xx)) (v_CO1 hW hx) ?_
      refine zj_iconst (pc := 86) (v := 1) C dL_areTotalsSo_86 (by decide) ?_
      refine zj_iand (pc := 87) C dL_areTotalsSo_87 ?_
      refine zj_top (x' := nI (dsV (dst g) xx % 2)) (and_1 ⟨dsV (dst g) xx, hds16⟩) ?_
      refine zj_iconst (pc := 88) (v := 1) C dL_areTotalsSo_88 (by decide) ?_
      refine zj_icmp_ne (pc := 89) 96 C dL_areTotalsSo_89 (by decide) (fun _ => ?_) (fun cq_ => absurd cq_ (mt (nI_eq (a := dsV (dst g) xx % 2) (b := 1) (by omega) (by omega)).mp (by omega)))
      refine zj_iconst (pc := 96) (v := 0) C dL_areTotalsSo_96 (by decide) ?_
      refine zj_istore (pc := 97) C dL_areTotalsSo_97 (Nat.le_of_ble_eq_true rfl) ?_
      refine zj_iload (pc := 99) C dL_areTotalsSo_99 rfl ?_
      refine zj_iload (pc := 101) C dL_areTotalsSo_101 rfl ?_
      refine zj_if_lt (pc := 103) 110 C dL_areTotalsSo_103 (by decide) (fun cq_ => absurd cq_ (mt (nI_ltI (a := SS g al xx) (b := 0) (by omega) (by omega)).mp (by omega))) (fun _ => ?_)
      refine zj_iconst (pc := 106) (v := 1) C dL_areTotalsSo_106 (by decide) ?_
      refine zj_goto (pc := 107) (tgt := 111) C dL_areTotalsSo_107 (by decide) ?_
      refine zj_iadd (pc := 111) C dL_areTotalsSo_111 ?_
      refine zj_top (x' := nI (cntB (fun y => !(RR g al y == 0)) (xx + 1))) (by rw [cntB_t (p := fun y => !(RR g al y == 0)) (by simp [hr])]; exact nI_1 _) ?_
      refine zj_istore (pc := 112) C dL_areTotalsSo_112 (Nat.le_of_ble_eq_true rfl) ?_
      refine zj_iload (pc := 114) C dL_areTotalsSo_114 rfl ?_
      refine zj_if_ge (pc := 116) 186 C dL_areTotalsSo_116 (by decide) (fun _ => ?_) (fun cq_ => absurd ((nI_leI (a := 0) (b := SS g al xx) (by omega) (by omega)).mpr (by omega)) cq_)
      refine zj_iload (pc := 186) C dL_areTotalsSo_186 rfl ?_
      refine zj_if_eq (pc := 188) 346 C dL_areTotalsSo_188 (by decide) (fun cq_ => absurd cq_ (by decide)) (fun _ => ?_)
      refine zj_iload (pc := 191) C dL_areTotalsSo_191 rfl ?_
      refine zj_iconst (pc := 193) (v := 1) C dL_areTotalsSo_193 (by decide) ?_
      refine zj_icmp_ne (pc := 194) 201 C dL_areTotalsSo_194 (by decide) (fun _ => ?_) (fun cq_ => absurd cq_ (by decide))
      refine zj_iconst (pc := 201) (v := 0) C dL_areTotalsSo_201 (by decide) ?_
      refine zj_iload (pc := 202) C dL_areTotalsSo_202 rfl ?_
      refine zj_if_lt (pc := 204) 211 C dL_areTotalsSo_204 (by decide) (fun _ => ?_) (fun cq_ => absurd (by decide) cq_)
      refine zj_iconst (pc := 211) (v := 0) C dL_areTotalsSo_211 (by decide) ?_
      refine zj_icmp_ne (pc := 212) 346 C dL_areTotalsSo_212 (by decide) (fun cq_ => absurd (by decide) cq_) (fun _ => ?_)
      refine zj_iload (pc := 215) C dL_areTotalsSo_215 rfl ?_
      refine zj_iconst (pc := 217) (v := 1) C dL_areTotalsSo_217 (by decide) ?_
      refine zj_icmp_ne (pc := 218) 235 C dL_areTotalsSo_218 (by decide) (fun _ => ?_) (fun cq_ => absurd cq_ (by decide))
      refine zj_iload (pc := 235) C dL_areTotalsSo_235 rfl ?_
      refine zj_iconst (pc := 237) (v := 1) C dL_areTotalsSo_237 (by decide) ?_
      refine zj_icmp_eq (pc := 238) 257 C dL_areTotalsSo_238 (by decide) (fun cq_ => absurd cq_ (by decide)) (fun _ => ?_)
      refine zj_iload (pc := 241) C dL_areTotalsSo_241 rfl ?_
      refine zj_iconst (pc := 243) (v := 2) C dL_areTotalsSo_243 (by decide) ?_
      refine zj_icmp_ne (pc := 244) 251 C dL_areTotalsSo_244 (by decide) (fun _ => ?_) (fun cq_ => absurd cq_ (by decide))
      refine zj_iconst (pc := 251) (v := 0) C dL_areTotalsSo_251 (by decide) ?_
      refine zj_iload (pc := 252) C dL_areTotalsSo_252 rfl ?_
      refine zj_icmp_ne (pc := 254) 346 C dL_areTotalsSo_254 (by decide) (fun cq_ => absurd (by decide) cq_) (fun _ => ?_)
      refine zj_iload (pc := 257) C dL_areTotalsSo_257 rfl ?_
      refine zj_iconst (pc := 259) (v := 2) C dL_areTotalsSo_259 (by decide) ?_
      refine zj_icmp_ne (pc := 260) 267 C dL_areTotalsSo_260 (by decide) (fun _ => ?_) (fun cq_ => absurd cq_ (by decide))
      refine zj_iload (pc := 267) C dL_areTotalsSo_267 rfl ?_
      refine zj_if_lt (pc := 269) 346 C dL_areTotalsSo_269 (by decide) (fun cq_ => absurd cq_ (mt (nI_ltI (a := shD4 g al xx) (b := 0) (by omega) (by omega)).mp (by omega))) (fun _ => ?_)
      refine zj_iload (pc := 272) C dL_areTotalsSo_272 rfl ?_
      refine zj_iload (pc := 274) C dL_areTotalsSo_274 rfl ?_
      refine zj_icmp_lt (pc := 276) 346 C dL_areTotalsSo_276 (by decide) (fun cq_ => absurd cq_ (mt (nI_ltI (a := SS g al xx) (b := shD4 g al xx) (by omega) (by omega)).mp (by omega))) (fun _ => ?_)
      refine zj_aload_n (pc := 279) C dL_areTotalsSo_279 rfl ?_
      refine zj_iload (pc := 280) C dL_areTotalsSo_280 rfl ?_
      refine zj_iload_n (pc := 282) C dL_areTotalsSo_282 rfl ?_
      refine zj_callQ (pc := 283) C kv_L_62 (q_ST hu62) dL_areTotalsSo_283 0 rfl rfl rfl rfl rfl rfl rfl (OB_rec hu62) rfl (fun u63 hu63 => ?_)
      refine zj_blk (bs' := [u63]) rfl ?_
      refine zj_fconst1 (pc := 286) C dL_areTotalsSo_286 ?_
      refine zj_fcmpl (pc := 287) C dL_areTotalsSo_287 ?_
      refine zj_if_lt (pc := 288) 346 C dL_areTotalsSo_288 (by decide) (fun cq_ => absurd cq_ (v_STs hv hW hx ha hr0)) (fun _ => ?_)
      refine zj_iload (pc := 291) C dL_areTotalsSo_291 rfl ?_
      refine zj_iconst (pc := 293) (v := 1) C dL_areTotalsSo_293 (by decide) ?_
      refine zj_icmp_ne (pc := 294) 311 C dL_areTotalsSo_294 (by decide) (fun _ => ?_) (fun cq_ => absurd cq_ (by decide))
      refine zj_iload (pc := 311) C dL_areTotalsSo_311 rfl ?_
      refine zj_if_le (pc := 313) 346 C dL_areTotalsSo_313 (by decide) (fun cq_ => absurd cq_ (mt (nI_leI (a := seN g W xx al 24) (b := 0) (by omega) (by omega)).mp (by omega))) (fun _ => ?_)
      refine zj_aload_n (pc := 316) C dL_areTotalsSo_316 rfl ?_
      refine zj_iload (pc := 317) C dL_areTotalsSo_317 rfl ?_
      refine zj_iload_n (pc := 319) C dL_areTotalsSo_319 rfl ?_
      refine zj_iconst (pc := 320) (v := 2) C dL_areTotalsSo_320 (by decide) ?_
      refine zj_callQ (pc := 321) C kv_L_53 (q_TO hu63) dL_areTotalsSo_321 0 rfl rfl rfl rfl rfl rfl rfl (OB_rec hu63) rfl (fun u64 hu64 => ?_)
      refine zj_blk (bs' := [u64]) rfl ?_
      refine zj_top (x' := nI (z)) ((v_TO2 hv hW hx ha hr0).trans hz) ?_
      refine zj_iload (pc := 324) C dL_areTotalsSo_324 rfl ?_
      refine zj_if_ne (pc := 326) 334 C dL_areTotalsSo_326 (by decide) (fun _ => ?_) (fun cq_ => absurd cq_ (mt (nI_eq (a := seN g W xx al 24) (b := 0) (by omega) (by omega)).mp (by omega)))
      refine zj_iload (pc := 334) C dL_areTotalsSo_334 rfl ?_
      refine zj_callSF (pc := 336) C kv_L_67 (m_L_lowest (n := seN g W xx al 24) (z := z) hs14 hz14 hbz hbj) dL_areTotalsSo_336 rfl rfl rfl rfl rfl rfl ?_
      refine zj_icmp_ne (pc := 339) 346 C dL_areTotalsSo_339 (by decide) (fun cq_ => absurd rfl cq_) (fun _ => ?_)
      refine zj_iconst (pc := 342) (v := 1) C dL_areTotalsSo_342 (by decide) ?_
      refine zj_goto (pc := 343) (tgt := 347) C dL_areTotalsSo_343 (by decide) ?_
      refine zj_istore (pc := 347) C dL_areTotalsSo_347 (Nat.le_of_ble_eq_true rfl) ?_
      refine zj_iconst (pc := 349) (v := 0) C dL_areTotalsSo_349 (by decide) ?_
      refine zj_istore (pc := 350) C dL_areTotalsSo_350 (Nat.le_of_ble_eq_true rfl) ?_
      refine zj_keep [true, true, true, true, true, true, true, true, true, true, true, true, false, true] ?_
      refine zj_loopW (σ := Nat × va_W) (fun x => x.1 ≤ 14 ∧ OB G a g hn F W x.2) (fun x => 14 - x.1) (fun x => [x.2]) (fun x => [some (.ref a), some (.int (nI (al))), some (.int (nI (aC g al))), some (.int (nI (aD g al))), some (.int (nI (cntB (fun y => !(RR g al y == 0)) (xx + 1)))), some (.int (1)), some (.int (nI (xx))), some (.int (nI (SS g al xx))), some (.int (3)), some (.int (nI (seN g W xx al 24))), some (.int (-5)), some (.int (nI (shD4 g al xx))), none, some (.int (nI (x.1)))]) ?_ (0, u64) ⟨Nat.zero_le _, hu64⟩
      rintro ⟨t, y0⟩ ⟨ht, hy0⟩ iht
      have ht : t ≤ 14 := ht
      refine zj_eq (bs' := [y0]) (lo' := [some (.ref a), some (.int (nI (al))), some (.int (nI (aC g al))), some (.int (nI (aD g al))), some (.int (nI (cntB (fun y => !(RR g al y == 0)) (xx + 1)))), some (.int (1)), some (.int (nI (xx))), some (.int (nI (SS g al xx))), some (.int (3)), some (.int (nI (seN g W xx al 24))), some (.int (-5)), some (.int (nI (shD4 g al xx))), none, some (.int (nI (t)))]) rfl rfl rfl ?_
      refine zj_iload (pc := 352) C dL_areTotalsSo_352 rfl ?_
      refine zj_bipush (pc := 354) (v := 14) C dL_areTotalsSo_354 (by decide) ?_
      refine zj_icmp_ge (pc := 356) 450 C dL_areTotalsSo_356 (by decide) (fun c_356 => ?_) (fun c_356 => ?_)
      · have wf := wk_f hv hW hx ha hr0
        rcases hwk : wkG g W al 31 xx (alC g al 1) 0 with _ | ⟨n1, len, ps⟩
        · refine zj_aload_n (pc := 450) C dL_areTotalsSo_450 rfl ?_
          refine zj_iload (pc := 451) C dL_areTotalsSo_451 rfl ?_
          refine zj_iload_n (pc := 453) C dL_areTotalsSo_453 rfl ?_
          refine zj_iconst (pc := 454) (v := 0) C dL_areTotalsSo_454 (by decide) ?_
          refine zj_callQ (pc := 455) C kv_L_59 (q_WK hy0) dL_areTotalsSo_455 0 rfl rfl rfl rfl rfl rfl rfl (OB_rec hy0) rfl (fun u65 hu65 => ?_)
          refine zj_blk (bs' := [u65]) rfl ?_
          refine zj_top (x' := (-5 : Int32)) ((v_WK hv (c := 0) hx ha (by decide)).trans (wx_n hwk)) ?_
          refine zj_istore (pc := 458) C dL_areTotalsSo_458 (Nat.le_of_ble_eq_true rfl) ?_
          refine zj_iload (pc := 460) C dL_areTotalsSo_460 rfl ?_
          refine zj_if_eq (pc := 462) 582 C dL_areTotalsSo_462 (by decide) (fun cq_ => absurd cq_ (by decide)) (fun _ => ?_)
          refine zj_iload (pc := 465) C dL_areTotalsSo_465 rfl ?_
          refine zj_bipush (pc := 467) (v := (-5)) C dL_areTotalsSo_467 (by decide) ?_
          refine zj_icmp_eq (pc := 469) 554 C dL_areTotalsSo_469 (by decide) (fun _ => ?_) (fun cq_ => absurd (by decide) cq_)
          refine zj_iload (pc := 554) C dL_areTotalsSo_554 rfl ?_
          refine zj_iconst (pc := 556) (v := 1) C dL_areTotalsSo_556 (by decide) ?_
          refine zj_icmp_ne (pc := 557) 578 C dL_areTotalsSo_557 (by decide) (fun _ => ?_) (fun cq_ => absurd cq_ (by decide))
          refine zj_iconst (pc := 578) (v := 1) C dL_areTotalsSo_578 (by decide) ?_
          refine zj_goto (pc := 579) (tgt := 583) C dL_areTotalsSo_579 (by decide) ?_
          refine zj_istore (pc := 583) C dL_areTotalsSo_583 (Nat.le_of_ble_eq_true rfl) ?_
          refine zj_iinc (pc := 585) (v := nI (xx + 1)) C dL_areTotalsSo_585 rfl (nI_1 _) ?_
          refine zj_goto (pc := 588) (tgt := 23) C dL_areTotalsSo_588 (by decide) ?_
          refine zj_keep [true, true, true, true, true, true, true, false, false, false, false, false, false, false] ?_
          exact ih (xx + 1, u65) ⟨by show xx + 1 ≤ 14; omega, hu65⟩ (by show 14 - (xx + 1) < 14 - xx; omega)
        · rw [hwk] at wf
          obtain ⟨w1, w2, w3, w4, w5, w6, w7, w8⟩ := wf
          refine zj_aload_n (pc := 450) C dL_areTotalsSo_450 rfl ?_
          refine zj_iload (pc := 451) C dL_areTotalsSo_451 rfl ?_
          refine zj_iload_n (pc := 453) C dL_areTotalsSo_453 rfl ?_
          refine zj_iconst (pc := 454) (v := 0) C dL_areTotalsSo_454 (by decide) ?_
          refine zj_callQ (pc := 455) C kv_L_59 (q_WK hy0) dL_areTotalsSo_455 0 rfl rfl rfl rfl rfl rfl rfl (OB_rec hy0) rfl (fun u66 hu66 => ?_)
          refine zj_blk (bs' := [u66]) rfl ?_
          refine zj_top (x' := nI (n1)) ((v_WK hv (c := 0) hx ha (by decide)).trans (wx_0 hwk)) ?_
          refine zj_istore (pc := 458) C dL_areTotalsSo_458 (Nat.le_of_ble_eq_true rfl) ?_
          refine zj_iload (pc := 460) C dL_areTotalsSo_460 rfl ?_
          refine zj_if_eq (pc := 462) 582 C dL_areTotalsSo_462 (by decide) (fun cq_ => absurd cq_ (by decide)) (fun _ => ?_)
          refine zj_iload (pc := 465) C dL_areTotalsSo_465 rfl ?_
          refine zj_bipush (pc := 467) (v := (-5)) C dL_areTotalsSo_467 (by decide) ?_
          refine zj_icmp_eq (pc := 469) 554 C dL_areTotalsSo_469 (by decide) (fun cq_ => absurd cq_ (nI_ne5 (a := n1) (by omega))) (fun _ => ?_)
          refine zj_iload (pc := 472) C dL_areTotalsSo_472 rfl ?_
          refine zj_if_lt (pc := 474) 582 C dL_areTotalsSo_474 (by decide) (fun cq_ => absurd cq_ (mt (nI_ltI (a := n1) (b := 0) (by omega) (by omega)).mp (by omega))) (fun _ => ?_)
          refine zj_iload (pc := 477) C dL_areTotalsSo_477 rfl ?_
          refine zj_bipush (pc := 479) (v := 30) C dL_areTotalsSo_479 (by decide) ?_
          refine zj_icmp_gt (pc := 481) 582 C dL_areTotalsSo_481 (by decide) (fun cq_ => absurd cq_ (mt (nI_ltI (a := 30) (b := n1) (by omega) (by omega)).mp (by omega))) (fun _ => ?_)
          refine zj_aload_n (pc := 484) C dL_areTotalsSo_484 rfl ?_
          refine zj_iload (pc := 485) C dL_areTotalsSo_485 rfl ?_
          refine zj_iload_n (pc := 487) C dL_areTotalsSo_487 rfl ?_
          refine zj_iconst (pc := 488) (v := 1) C dL_areTotalsSo_488 (by decide) ?_
          refine zj_callQ (pc := 489) C kv_L_59 (q_WK hu66) dL_areTotalsSo_489 0 rfl rfl rfl rfl rfl rfl rfl (OB_rec hu66) rfl (fun u67 hu67 => ?_)
          refine zj_blk (bs' := [u67]) rfl ?_
          refine zj_top (x' := nI (len)) ((v_WK hv (c := 1) hx ha (by decide)).trans (wx_1 hwk)) ?_
          refine zj_iload (pc := 492) C dL_areTotalsSo_492 rfl ?_
          refine zj_icmp_lt (pc := 494) 582 C dL_areTotalsSo_494 (by decide) (fun cq_ => absurd cq_ (mt (nI_ltI (a := len) (b := shD4 g al xx) (by omega) (by omega)).mp (by omega))) (fun _ => ?_)
          refine zj_aload_n (pc := 497) C dL_areTotalsSo_497 rfl ?_
          refine zj_iload (pc := 498) C dL_areTotalsSo_498 rfl ?_
          refine zj_iload_n (pc := 500) C dL_areTotalsSo_500 rfl ?_
          refine zj_iconst (pc := 501) (v := 2) C dL_areTotalsSo_501 (by decide) ?_
          refine zj_callQ (pc := 502) C kv_L_59 (q_WK hu67) dL_areTotalsSo_502 0 rfl rfl rfl rfl rfl rfl rfl (OB_rec hu67) rfl (fun u68 hu68 => ?_)
          refine zj_blk (bs' := [u68]) rfl ?_
          refine zj_top (x' := nI (ps)) ((v_WK hv (c := 2) hx ha (by decide)).trans (wx_2 hwk)) ?_
          refine zj_iload_n (pc := 505) C dL_areTotalsSo_505 rfl ?_
          refine zj_ishr (pc := 506) C dL_areTotalsSo_506 ?_
          refine zj_iconst (pc := 507) (v := 1) C dL_areTotalsSo_507 (by decide) ?_
          refine zj_iand (pc := 508) C dL_areTotalsSo_508 ?_
          refine zj_top (x' := nI (ps / 2 ^ aC g al % 2)) (nI_bit (by omega) (by omega)) ?_
          refine zj_iconst (pc := 509) (v := 1) C dL_areTotalsSo_509 (by decide) ?_
          refine zj_icmp_ne (pc := 510) 582 C dL_areTotalsSo_510 (by decide) (fun cq_ => absurd ((nI_eq (a := ps / 2 ^ aC g al % 2) (b := 1) (by omega) (by omega)).mpr (by omega)) cq_) (fun _ => ?_)
          refine zj_aload_n (pc := 513) C dL_areTotalsSo_513 rfl ?_
          refine zj_iload (pc := 514) C dL_areTotalsSo_514 rfl ?_
          refine zj_iload_n (pc := 516) C dL_areTotalsSo_516 rfl ?_
          refine zj_iconst (pc := 517) (v := 2) C dL_areTotalsSo_517 (by decide) ?_
          refine zj_callQ (pc := 518) C kv_L_59 (q_WK hu68) dL_areTotalsSo_518 0 rfl rfl rfl rfl rfl rfl rfl (OB_rec hu68) rfl (fun u69 hu69 => ?_)
          refine zj_blk (bs' := [u69]) rfl ?_
          refine zj_top (x' := nI (ps)) ((v_WK hv (c := 2) hx ha (by decide)).trans (wx_2 hwk)) ?_
          refine zj_iload (pc := 521) C dL_areTotalsSo_521 rfl ?_
          refine zj_ishr (pc := 523) C dL_areTotalsSo_523 ?_
          refine zj_iconst (pc := 524) (v := 1) C dL_areTotalsSo_524 (by decide) ?_
          refine zj_iand (pc := 525) C dL_areTotalsSo_525 ?_
          refine zj_top (x' := nI (ps / 2 ^ xx % 2)) (nI_bit (by omega) (by omega)) ?_
          refine zj_iconst (pc := 526) (v := 1) C dL_areTotalsSo_526 (by decide) ?_
          refine zj_icmp_ne (pc := 527) 582 C dL_areTotalsSo_527 (by decide) (fun cq_ => absurd ((nI_eq (a := ps / 2 ^ xx % 2) (b := 1) (by omega) (by omega)).mpr (by omega)) cq_) (fun _ => ?_)
          refine zj_iload (pc := 530) C dL_areTotalsSo_530 rfl ?_
          refine zj_if_ne (pc := 532) 539 C dL_areTotalsSo_532 (by decide) (fun _ => ?_) (fun cq_ => absurd cq_ (mt (nI_eq (a := n1) (b := 0) (by omega) (by omega)).mp (by omega)))
          refine zj_iconst (pc := 539) (v := 0) C dL_areTotalsSo_539 (by decide) ?_
          refine zj_iload (pc := 540) C dL_areTotalsSo_540 rfl ?_
          refine zj_iload_n (pc := 542) C dL_areTotalsSo_542 rfl ?_
          refine zj_icmp_ne (pc := 543) 550 C dL_areTotalsSo_543 (by decide) (fun _ => ?_) (fun cq_ => absurd cq_ (mt (nI_eq (a := xx) (b := aC g al) (by omega) (by omega)).mp (by omega)))
          refine zj_iconst (pc := 550) (v := 0) C dL_areTotalsSo_550 (by decide) ?_
          refine zj_icmp_ne (pc := 551) 582 C dL_areTotalsSo_551 (by decide) (fun cq_ => absurd (by decide) cq_) (fun _ => ?_)
          refine zj_iload (pc := 554) C dL_areTotalsSo_554 rfl ?_
          refine zj_iconst (pc := 556) (v := 1) C dL_areTotalsSo_556 (by decide) ?_
          refine zj_icmp_ne (pc := 557) 578 C dL_areTotalsSo_557 (by decide) (fun _ => ?_) (fun cq_ => absurd cq_ (by decide))
          refine zj_iconst (pc := 578) (v := 1) C dL_areTotalsSo_578 (by decide) ?_
          refine zj_goto (pc := 579) (tgt := 583) C dL_areTotalsSo_579 (by decide) ?_
          refine zj_istore (pc := 583) C dL_areTotalsSo_583 (Nat.le_of_ble_eq_true rfl) ?_
          refine zj_iinc (pc := 585) (v := nI (xx + 1)) C dL_areTotalsSo_585 rfl (nI_1 _) ?_
          refine zj_goto (pc := 588) (tgt := 23) C dL_areTotalsSo_588 (by decide) ?_
          refine zj_keep [true, true, true, true, true, true, true, false, false, false, false, false, false, false] ?_
          exact ih (xx + 1, u69) ⟨by show xx + 1 ≤ 14; omega, hu69⟩ (by show 14 - (xx + 1) < 14 - xx; omega)
      · refine zj_iload (pc := 359) C dL_areTotalsSo_359 rfl ?_
        refine zj_if_eq (pc := 361) 441 C dL_areTotalsSo_361 (by decide) (fun cq_ => absurd cq_ (by decide)) (fun _ => ?_)
        have ht14 : t < 14 := by have := mt (nI_leI (a := 14) (b := t) (by omega) (by omega)).mpr c_356; omega
        by_cases hbt : bitB (seN g W xx al 24) t = true
        · have hb1 := bit_1 hbt
          obtain ⟨i0, hi0, hti, hj, hds⟩ := steps_b hv hW hx ha hbt
          rcases hds with q | q | ⟨-, sd⟩
          · rw [hr] at q; exact absurd q.1 (by decide)
          · rw [hr] at q; exact absurd q.1 (by decide)
          refine zj_iload (pc := 364) C dL_areTotalsSo_364 rfl ?_
          refine zj_iload (pc := 366) C dL_areTotalsSo_366 rfl ?_
          refine zj_ishr (pc := 368) C dL_areTotalsSo_368 ?_
          refine zj_iconst (pc := 369) (v := 1) C dL_areTotalsSo_369 (by decide) ?_
          refine zj_iand (pc := 370) C dL_areTotalsSo_370 ?_
          refine zj_top (x' := nI (seN g W xx al 24 / 2 ^ t % 2)) (nI_bit (by omega) (by omega)) ?_
          refine zj_if_eq (pc := 371) 437 C dL_areTotalsSo_371 (by decide) (fun cq_ => absurd cq_ (mt (nI_eq (a := seN g W xx al 24 / 2 ^ t % 2) (b := 0) (by omega) (by omega)).mp (by omega))) (fun _ => ?_)
          refine zj_aload_n (pc := 374) C dL_areTotalsSo_374 rfl ?_
          refine zj_iload (pc := 375) C dL_areTotalsSo_375 rfl ?_
          refine zj_iload (pc := 377) C dL_areTotalsSo_377 rfl ?_
          refine zj_iload (pc := 379) C dL_areTotalsSo_379 rfl ?_
          refine zj_iconst (pc := 381) (v := 1) C dL_areTotalsSo_381 (by decide) ?_
          refine zj_icmp_ne (pc := 382) 389 C dL_areTotalsSo_382 (by decide) (fun _ => ?_) (fun cq_ => absurd cq_ (by decide))
          refine zj_iload (pc := 389) C dL_areTotalsSo_389 rfl ?_
          refine zj_iconst (pc := 391) (v := 2) C dL_areTotalsSo_391 (by decide) ?_
          refine zj_icmp_ne (pc := 392) 399 C dL_areTotalsSo_392 (by decide) (fun _ => ?_) (fun cq_ => absurd cq_ (by decide))
          refine zj_iconst (pc := 399) (v := (-1)) C dL_areTotalsSo_399 (by decide) ?_
          refine zj_callS1 (pc := 400) C kv_L_70 (zY_of (m_L_isLane hy0 hi0 hti hj (Or.inl ⟨by decide, sd⟩))) dL_areTotalsSo_400 0 rfl rfl rfl rfl rfl rfl rfl (fun u70 hu70 => ?_)
          refine zj_blk (bs' := [u70]) rfl ?_
          refine zj_if_eq (pc := 403) 441 C dL_areTotalsSo_403 (by decide) (fun cq_ => absurd cq_ (by decide)) (fun _ => ?_)
          refine zj_iload (pc := 406) C dL_areTotalsSo_406 rfl ?_
          refine zj_iconst (pc := 408) (v := 1) C dL_areTotalsSo_408 (by decide) ?_
          refine zj_icmp_ne (pc := 409) 437 C dL_areTotalsSo_409 (by decide) (fun _ => ?_) (fun cq_ => absurd cq_ (by decide))
          refine zj_iconst (pc := 437) (v := 1) C dL_areTotalsSo_437 (by decide) ?_
          refine zj_goto (pc := 438) (tgt := 442) C dL_areTotalsSo_438 (by decide) ?_
          refine zj_istore (pc := 442) C dL_areTotalsSo_442 (Nat.le_of_ble_eq_true rfl) ?_
          refine zj_iinc (pc := 444) (v := nI (t + 1)) C dL_areTotalsSo_444 rfl (nI_1 _) ?_
          refine zj_goto (pc := 447) (tgt := 352) C dL_areTotalsSo_447 (by decide) ?_
          refine zj_keep [true, true, true, true, true, true, true, true, true, true, true, true, false, true] ?_
          exact iht (t + 1, u70) ⟨by show t + 1 ≤ 14; omega, hu70⟩ (by show 14 - (t + 1) < 14 - t; omega)
        · have hb1 := bit_0 hbt
          refine zj_iload (pc := 364) C dL_areTotalsSo_364 rfl ?_
          refine zj_iload (pc := 366) C dL_areTotalsSo_366 rfl ?_
          refine zj_ishr (pc := 368) C dL_areTotalsSo_368 ?_
          refine zj_iconst (pc := 369) (v := 1) C dL_areTotalsSo_369 (by decide) ?_
          refine zj_iand (pc := 370) C dL_areTotalsSo_370 ?_
          refine zj_top (x' := nI (seN g W xx al 24 / 2 ^ t % 2)) (nI_bit (by omega) (by omega)) ?_
          refine zj_if_eq (pc := 371) 437 C dL_areTotalsSo_371 (by decide) (fun _ => ?_) (fun cq_ => absurd ((nI_eq (a := seN g W xx al 24 / 2 ^ t % 2) (b := 0) (by omega) (by omega)).mpr (by omega)) cq_)
          refine zj_iconst (pc := 437) (v := 1) C dL_areTotalsSo_437 (by decide) ?_
          refine zj_goto (pc := 438) (tgt := 442) C dL_areTotalsSo_438 (by decide) ?_
          refine zj_istore (pc := 442) C dL_areTotalsSo_442 (Nat.le_of_ble_eq_true rfl) ?_
          refine zj_iinc (pc := 444) (v := nI (t + 1)) C dL_areTotalsSo_444 rfl (nI_1 _) ?_
          refine zj_goto (pc := 447) (tgt := 352) C dL_areTotalsSo_447 (by decide) ?_
          refine zj_keep [true, true, true, true, true, true, true, true, true, true, true, true, false, true] ?_
          exact iht (t + 1, y0) ⟨by show t + 1 ≤ 14; omega, hy0⟩ (by show 14 - (t + 1) < 14 - t; omega)
