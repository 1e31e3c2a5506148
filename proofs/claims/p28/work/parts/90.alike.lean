/-! THE LAW'S METHODS: a lane between two, pairs, alike -/
def crV (g : Nat → Nat) (x c : Nat) : Int32 := if c = 0 then nI (g x) else if c = 1 then nI (dsV (dst g) x) else if c = 2 then nI (gdN (dsV (dst g)) x) else nI (cntB (fun i => hasCk g i && ck g i == x) (kL g))
theorem v_CO {g : Nat → Nat} {W : TC} (hW : WOK g W) {x c : Nat} (hx : x < 14) (hc : c < 4) : aCO g W (nI x) (nI c) = crV g x c := by
  rcases (show c = 0 ∨ c = 1 ∨ c = 2 ∨ c = 3 by omega) with rfl | rfl | rfl | rfl
  · exact v_CO0 hx
  · exact v_CO1 hW hx
  · exact v_CO2 hW hx
  · exact v_CO3 hx
set_option maxRecDepth 100000 in
set_option maxHeartbeats 4000000 in
theorem m_L_isLane {l : Launch} {G : GG} {a : Nat} {g : Nat → Nat} {hn : Nat} {F : (Nat → PC) → Prop} {W : TC} {w0 : va_W} {xx z i0 : Nat} {dd : Int32} (h : OB G a g hn F W w0) (hi0 : i0 < kL g) (ht : told g i0 = true) (hj : (lnC g i0 0 = xx ∧ lnC g i0 1 = z) ∨ (lnC g i0 1 = xx ∧ lnC g i0 0 = z)) (hd : (dd < 0 ∧ 0 < lnC g i0 3) ∨ (¬ dd < 0 ∧ nI (lnC g i0 3) = dd)) : zX l G yL_isLane cL_isLane 7 (some .boolean) 8 184 0 0 [.ref a, .int (nI (xx)), .int (nI (z)), .int (dd)] (w0) (zQ (.int 1) (OB G a g hn F W)) := by
  refine zj_startF RL (by decide +kernel) rfl rfl rfl (bs := [w0]) (by simp) (lo := [some (.ref a), some (.int (nI (xx))), some (.int (nI (z))), some (.int (dd)), none, none, none]) rfl ?_
  intro p0 e0 s0 m0 args0 below0 meth0 c0 A0 C hr hlocks
  have hv := (OB_v h).1
  have h24 := hv.1
  have h100 : ∀ k, k < kL g → lnC g k 3 < 100 := fun k hk => V_cell hv hk (by decide)
  refine zj_iconst (pc := 0) (v := 0) C dL_isLane_0 (by decide) ?_
  refine zj_istore (pc := 1) C dL_isLane_1 (Nat.le_of_ble_eq_true rfl) ?_
  refine zj_iconst (pc := 3) (v := 0) C dL_isLane_3 (by decide) ?_
  refine zj_istore (pc := 4) C dL_isLane_4 (Nat.le_of_ble_eq_true rfl) ?_
  refine zj_keep [true, true, true, true, true, true, false] ?_
  refine zj_loopW (σ := Nat × Bool × va_W) (fun x => x.1 ≤ kL g ∧ OB G a g hn F W x.2.2 ∧ (i0 < x.1 → x.2.1 = true)) (fun x => kL g - x.1) (fun x => [x.2.2]) (fun x => [some (.ref a), some (.int (nI xx)), some (.int (nI z)), some (.int dd), some (.int (bI x.2.1)), some (.int (nI x.1)), none]) ?_ (0, false, w0) ⟨Nat.zero_le _, h, fun q => absurd q (Nat.not_lt_zero _)⟩
  rintro ⟨k, b, u0⟩ ⟨hk, hu0, hb⟩ ih
  have hk : k ≤ kL g := hk
  have hb : i0 < k → b = true := hb
  refine zj_eq (bs' := [u0]) (lo' := [some (.ref a), some (.int (nI (xx))), some (.int (nI (z))), some (.int (dd)), some (.int (bI (b))), some (.int (nI (k))), none]) rfl rfl rfl ?_
  refine zj_iload (pc := 6) C dL_isLane_6 rfl ?_
  refine zj_aload_n (pc := 8) C dL_isLane_8 rfl ?_
  refine zj_iconst (pc := 9) (v := 0) C dL_isLane_9 (by decide) ?_
  refine zj_callQ (pc := 10) C kv_L_24 (q_CT hu0 (fun tn => v_CT0)) dL_isLane_10 0 rfl rfl rfl rfl rfl rfl rfl (OB_rec hu0) rfl (fun u1 hu1 => ?_)
  refine zj_blk (bs' := [u1]) rfl ?_
  refine zj_icmp_ge (pc := 13) 130 C dL_isLane_13 (by decide) (fun c_13 => ?_) (fun c_13 => ?_)
  · have hke : k = kL g := by have := (nI_leI (a := kL g) (b := k) (by omega) (by omega)).mp c_13; omega
    refine zj_iload (pc := 130) C dL_isLane_130 rfl ?_
    refine zj_zret C hr hlocks dL_isLane_132 (by rw [hb (by omega)]; exact Or.inr rfl) ⟨by rw [hb (by omega)]; rfl, ?_⟩
    rw [fl1]
    exact hu1
  · have hkl : k < kL g := by have := mt (nI_leI (a := kL g) (b := k) (by omega) (by omega)).mpr c_13; omega
    have hl3 := h100 k hkl
    refine zj_aload_n (pc := 16) C dL_isLane_16 rfl ?_
    refine zj_iload (pc := 17) C dL_isLane_17 rfl ?_
    refine zj_iconst (pc := 19) (v := 0) C dL_isLane_19 (by decide) ?_
    refine zj_callQ (pc := 20) C kv_L_44 (q_LO hu1) dL_isLane_20 0 rfl rfl rfl rfl rfl rfl rfl (OB_rec hu1) rfl (fun u2 hu2 => ?_)
    refine zj_blk (bs' := [u2]) rfl ?_
    refine zj_top (x' := nI (lnC g (k) 0)) (v_LO hv (k := k) (c := 0) (by omega) (by decide)) ?_
    refine zj_iload_n (pc := 23) C dL_isLane_23 rfl ?_
    refine zj_icmp_ne (pc := 24) 38 C dL_isLane_24 (by decide) (fun c_24 => ?_) (fun c_24 => ?_)
    · refine zj_aload_n (pc := 38) C dL_isLane_38 rfl ?_
      refine zj_iload (pc := 39) C dL_isLane_39 rfl ?_
      refine zj_iconst (pc := 41) (v := 1) C dL_isLane_41 (by decide) ?_
      refine zj_callQ (pc := 42) C kv_L_44 (q_LO hu2) dL_isLane_42 0 rfl rfl rfl rfl rfl rfl rfl (OB_rec hu2) rfl (fun u3 hu3 => ?_)
      refine zj_blk (bs' := [u3]) rfl ?_
      refine zj_top (x' := nI (lnC g (k) 1)) (v_LO hv (k := k) (c := 1) (by omega) (by decide)) ?_
      refine zj_iload_n (pc := 45) C dL_isLane_45 rfl ?_
      refine zj_icmp_ne (pc := 46) 64 C dL_isLane_46 (by decide) (fun c_46 => ?_) (fun c_46 => ?_)
      · refine zj_iconst (pc := 64) (v := 0) C dL_isLane_64 (by decide) ?_
        refine zj_istore (pc := 65) C dL_isLane_65 (Nat.le_of_ble_eq_true rfl) ?_
        refine zj_iload (pc := 67) C dL_isLane_67 rfl ?_
        refine zj_ifb_ne (pc := 69) 117 C dL_isLane_69 (by decide) (fun c_69 => ?_) (fun c_69 => ?_)
        · refine zj_iconst (pc := 117) (v := 1) C dL_isLane_117 (by decide) ?_
          refine zj_goto (pc := 118) (tgt := 122) C dL_isLane_118 (by decide) ?_
          refine zj_istore (pc := 122) C dL_isLane_122 (Nat.le_of_ble_eq_true rfl) ?_
          refine zj_iinc (pc := 124) (v := nI (k + 1)) C dL_isLane_124 rfl (nI_1 _) ?_
          refine zj_goto (pc := 127) (tgt := 6) C dL_isLane_127 (by decide) ?_
          refine zj_keep [true, true, true, true, true, true, false] ?_
          exact ih (k + 1, true, u3) ⟨by show k + 1 ≤ kL g; omega, hu3, fun _ => rfl⟩ (by show kL g - (k + 1) < kL g - k; omega)
        · refine zj_iload (pc := 72) C dL_isLane_72 rfl ?_
          refine zj_if_eq (pc := 74) 121 C dL_isLane_74 (by decide) (fun _ => ?_) (fun cq_ => absurd (by decide) cq_)
          refine zj_iconst (pc := 121) (v := 0) C dL_isLane_121 (by decide) ?_
          refine zj_istore (pc := 122) C dL_isLane_122 (Nat.le_of_ble_eq_true rfl) ?_
          refine zj_iinc (pc := 124) (v := nI (k + 1)) C dL_isLane_124 rfl (nI_1 _) ?_
          refine zj_goto (pc := 127) (tgt := 6) C dL_isLane_127 (by decide) ?_
          refine zj_keep [true, true, true, true, true, true, false] ?_
          refine ih (k + 1, false, u3) ⟨by show k + 1 ≤ kL g; omega, hu3, fun hlt => ?_⟩ (by show kL g - (k + 1) < kL g - k; omega)
          have hlt : i0 < k + 1 := hlt
          exfalso
          rcases Nat.lt_or_ge i0 k with hl | hl
          · rw [hb hl] at c_69; cases c_69
          · have he : i0 = k := by omega
            subst he
            rcases hj with ⟨h1, h2⟩ | ⟨h1, h2⟩
            · first | exact c_24 (congrArg nI h1) | exact c_35 (congrArg nI h2)
            · first | exact c_46 (congrArg nI h1) | exact c_57 (congrArg nI h2)
      · refine zj_aload_n (pc := 49) C dL_isLane_49 rfl ?_
        refine zj_iload (pc := 50) C dL_isLane_50 rfl ?_
        refine zj_iconst (pc := 52) (v := 0) C dL_isLane_52 (by decide) ?_
        refine zj_callQ (pc := 53) C kv_L_44 (q_LO hu3) dL_isLane_53 0 rfl rfl rfl rfl rfl rfl rfl (OB_rec hu3) rfl (fun u4 hu4 => ?_)
        refine zj_blk (bs' := [u4]) rfl ?_
        refine zj_top (x' := nI (lnC g (k) 0)) (v_LO hv (k := k) (c := 0) (by omega) (by decide)) ?_
        refine zj_iload_n (pc := 56) C dL_isLane_56 rfl ?_
        refine zj_icmp_ne (pc := 57) 64 C dL_isLane_57 (by decide) (fun c_57 => ?_) (fun c_57 => ?_)
        · refine zj_iconst (pc := 64) (v := 0) C dL_isLane_64 (by decide) ?_
          refine zj_istore (pc := 65) C dL_isLane_65 (Nat.le_of_ble_eq_true rfl) ?_
          refine zj_iload (pc := 67) C dL_isLane_67 rfl ?_
          refine zj_ifb_ne (pc := 69) 117 C dL_isLane_69 (by decide) (fun c_69 => ?_) (fun c_69 => ?_)
          · refine zj_iconst (pc := 117) (v := 1) C dL_isLane_117 (by decide) ?_
            refine zj_goto (pc := 118) (tgt := 122) C dL_isLane_118 (by decide) ?_
            refine zj_istore (pc := 122) C dL_isLane_122 (Nat.le_of_ble_eq_true rfl) ?_
            refine zj_iinc (pc := 124) (v := nI (k + 1)) C dL_isLane_124 rfl (nI_1 _) ?_
            refine zj_goto (pc := 127) (tgt := 6) C dL_isLane_127 (by decide) ?_
            refine zj_keep [true, true, true, true, true, true, false] ?_
            exact ih (k + 1, true, u4) ⟨by show k + 1 ≤ kL g; omega, hu4, fun _ => rfl⟩ (by show kL g - (k + 1) < kL g - k; omega)
          · refine zj_iload (pc := 72) C dL_isLane_72 rfl ?_
            refine zj_if_eq (pc := 74) 121 C dL_isLane_74 (by decide) (fun _ => ?_) (fun cq_ => absurd (by decide) cq_)
            refine zj_iconst (pc := 121) (v := 0) C dL_isLane_121 (by decide) ?_
            refine zj_istore (pc := 122) C dL_isLane_122 (Nat.le_of_ble_eq_true rfl) ?_
            refine zj_iinc (pc := 124) (v := nI (k + 1)) C dL_isLane_124 rfl (nI_1 _) ?_
            refine zj_goto (pc := 127) (tgt := 6) C dL_isLane_127 (by decide) ?_
            refine zj_keep [true, true, true, true, true, true, false] ?_
            refine ih (k + 1, false, u4) ⟨by show k + 1 ≤ kL g; omega, hu4, fun hlt => ?_⟩ (by show kL g - (k + 1) < kL g - k; omega)
            have hlt : i0 < k + 1 := hlt
            exfalso
            rcases Nat.lt_or_ge i0 k with hl | hl
            · rw [hb hl] at c_69; cases c_69
            · have he : i0 = k := by omega
              subst he
              rcases hj with ⟨h1, h2⟩ | ⟨h1, h2⟩
              · first | exact c_24 (congrArg nI h1) | exact c_35 (congrArg nI h2)
              · first | exact c_46 (congrArg nI h1) | exact c_57 (congrArg nI h2)
        · refine zj_iconst (pc := 60) (v := 1) C dL_isLane_60 (by decide) ?_
          refine zj_goto (pc := 61) (tgt := 65) C dL_isLane_61 (by decide) ?_
          refine zj_istore (pc := 65) C dL_isLane_65 (Nat.le_of_ble_eq_true rfl) ?_
          refine zj_iload (pc := 67) C dL_isLane_67 rfl ?_
          refine zj_ifb_ne (pc := 69) 117 C dL_isLane_69 (by decide) (fun c_69 => ?_) (fun c_69 => ?_)
          · refine zj_iconst (pc := 117) (v := 1) C dL_isLane_117 (by decide) ?_
            refine zj_goto (pc := 118) (tgt := 122) C dL_isLane_118 (by decide) ?_
            refine zj_istore (pc := 122) C dL_isLane_122 (Nat.le_of_ble_eq_true rfl) ?_
            refine zj_iinc (pc := 124) (v := nI (k + 1)) C dL_isLane_124 rfl (nI_1 _) ?_
            refine zj_goto (pc := 127) (tgt := 6) C dL_isLane_127 (by decide) ?_
            refine zj_keep [true, true, true, true, true, true, false] ?_
            exact ih (k + 1, true, u4) ⟨by show k + 1 ≤ kL g; omega, hu4, fun _ => rfl⟩ (by show kL g - (k + 1) < kL g - k; omega)
          · refine zj_iload (pc := 72) C dL_isLane_72 rfl ?_
            refine zj_if_eq (pc := 74) 121 C dL_isLane_74 (by decide) (fun cq_ => absurd cq_ (by decide)) (fun _ => ?_)
            refine zj_aload_n (pc := 77) C dL_isLane_77 rfl ?_
            refine zj_iload (pc := 78) C dL_isLane_78 rfl ?_
            refine zj_bipush (pc := 80) (v := 6) C dL_isLane_80 (by decide) ?_
            refine zj_callQ (pc := 82) C kv_L_44 (q_LO hu4) dL_isLane_82 0 rfl rfl rfl rfl rfl rfl rfl (OB_rec hu4) rfl (fun u5 hu5 => ?_)
            refine zj_blk (bs' := [u5]) rfl ?_
            refine zj_top (x' := bI (told g (k))) (v_LO6 hv (k := k) (by omega)) ?_
            refine zj_iconst (pc := 85) (v := 1) C dL_isLane_85 (by decide) ?_
            refine zj_icmp_ne (pc := 86) 121 C dL_isLane_86 (by decide) (fun c_86 => ?_) (fun c_86 => ?_)
            · refine zj_iconst (pc := 121) (v := 0) C dL_isLane_121 (by decide) ?_
              refine zj_istore (pc := 122) C dL_isLane_122 (Nat.le_of_ble_eq_true rfl) ?_
              refine zj_iinc (pc := 124) (v := nI (k + 1)) C dL_isLane_124 rfl (nI_1 _) ?_
              refine zj_goto (pc := 127) (tgt := 6) C dL_isLane_127 (by decide) ?_
              refine zj_keep [true, true, true, true, true, true, false] ?_
              refine ih (k + 1, false, u5) ⟨by show k + 1 ≤ kL g; omega, hu5, fun hlt => ?_⟩ (by show kL g - (k + 1) < kL g - k; omega)
              have hlt : i0 < k + 1 := hlt
              exfalso
              rcases Nat.lt_or_ge i0 k with hl | hl
              · rw [hb hl] at c_69; cases c_69
              · have he : i0 = k := by omega
                subst he
                exact c_86 (by rw [ht]; rfl)
            · refine zj_iload_n (pc := 89) C dL_isLane_89 rfl ?_
              refine zj_if_ge (pc := 90) 106 C dL_isLane_90 (by decide) (fun c_90 => ?_) (fun c_90 => ?_)
              · refine zj_aload_n (pc := 106) C dL_isLane_106 rfl ?_
                refine zj_iload (pc := 107) C dL_isLane_107 rfl ?_
                refine zj_iconst (pc := 109) (v := 3) C dL_isLane_109 (by decide) ?_
                refine zj_callQ (pc := 110) C kv_L_44 (q_LO hu5) dL_isLane_110 0 rfl rfl rfl rfl rfl rfl rfl (OB_rec hu5) rfl (fun u6 hu6 => ?_)
                refine zj_blk (bs' := [u6]) rfl ?_
                refine zj_top (x' := nI (lnC g (k) 3)) (v_LO hv (k := k) (c := 3) (by omega) (by decide)) ?_
                refine zj_iload_n (pc := 113) C dL_isLane_113 rfl ?_
                refine zj_icmp_ne (pc := 114) 121 C dL_isLane_114 (by decide) (fun c_114 => ?_) (fun c_114 => ?_)
                · refine zj_iconst (pc := 121) (v := 0) C dL_isLane_121 (by decide) ?_
                  refine zj_istore (pc := 122) C dL_isLane_122 (Nat.le_of_ble_eq_true rfl) ?_
                  refine zj_iinc (pc := 124) (v := nI (k + 1)) C dL_isLane_124 rfl (nI_1 _) ?_
                  refine zj_goto (pc := 127) (tgt := 6) C dL_isLane_127 (by decide) ?_
                  refine zj_keep [true, true, true, true, true, true, false] ?_
                  refine ih (k + 1, false, u6) ⟨by show k + 1 ≤ kL g; omega, hu6, fun hlt => ?_⟩ (by show kL g - (k + 1) < kL g - k; omega)
                  have hlt : i0 < k + 1 := hlt
                  exfalso
                  rcases Nat.lt_or_ge i0 k with hl | hl
                  · rw [hb hl] at c_69; cases c_69
                  · have he : i0 = k := by omega
                    subst he
                    rcases hd with q | q
                    · exact absurd q.1 (Int32.not_lt.mpr c_90)
                    · exact c_114 q.2
                · refine zj_iconst (pc := 117) (v := 1) C dL_isLane_117 (by decide) ?_
                  refine zj_goto (pc := 118) (tgt := 122) C dL_isLane_118 (by decide) ?_
                  refine zj_istore (pc := 122) C dL_isLane_122 (Nat.le_of_ble_eq_true rfl) ?_
                  refine zj_iinc (pc := 124) (v := nI (k + 1)) C dL_isLane_124 rfl (nI_1 _) ?_
                  refine zj_goto (pc := 127) (tgt := 6) C dL_isLane_127 (by decide) ?_
                  refine zj_keep [true, true, true, true, true, true, false] ?_
                  exact ih (k + 1, true, u6) ⟨by show k + 1 ≤ kL g; omega, hu6, fun _ => rfl⟩ (by show kL g - (k + 1) < kL g - k; omega)
              · refine zj_aload_n (pc := 93) C dL_isLane_93 rfl ?_
                refine zj_iload (pc := 94) C dL_isLane_94 rfl ?_
                refine zj_iconst (pc := 96) (v := 3) C dL_isLane_96 (by decide) ?_
                refine zj_callQ (pc := 97) C kv_L_44 (q_LO hu5) dL_isLane_97 0 rfl rfl rfl rfl rfl rfl rfl (OB_rec hu5) rfl (fun u7 hu7 => ?_)
                refine zj_blk (bs' := [u7]) rfl ?_
                refine zj_top (x' := nI (lnC g (k) 3)) (v_LO hv (k := k) (c := 3) (by omega) (by decide)) ?_
                refine zj_if_le (pc := 100) 121 C dL_isLane_100 (by decide) (fun c_100 => ?_) (fun c_100 => ?_)
                · refine zj_iconst (pc := 121) (v := 0) C dL_isLane_121 (by decide) ?_
                  refine zj_istore (pc := 122) C dL_isLane_122 (Nat.le_of_ble_eq_true rfl) ?_
                  refine zj_iinc (pc := 124) (v := nI (k + 1)) C dL_isLane_124 rfl (nI_1 _) ?_
                  refine zj_goto (pc := 127) (tgt := 6) C dL_isLane_127 (by decide) ?_
                  refine zj_keep [true, true, true, true, true, true, false] ?_
                  refine ih (k + 1, false, u7) ⟨by show k + 1 ≤ kL g; omega, hu7, fun hlt => ?_⟩ (by show kL g - (k + 1) < kL g - k; omega)
                  have hlt : i0 < k + 1 := hlt
                  exfalso
                  rcases Nat.lt_or_ge i0 k with hl | hl
                  · rw [hb hl] at c_69; cases c_69
                  · have he : i0 = k := by omega
                    subst he
                    rcases hd with q | q
                    · exact nI_nle q.2 (by omega) c_100
                    · exact c_90 (Int32.not_lt.mp q.1)
                · refine zj_goto (pc := 103) (tgt := 117) C dL_isLane_103 (by decide) ?_
                  refine zj_iconst (pc := 117) (v := 1) C dL_isLane_117 (by decide) ?_
                  refine zj_goto (pc := 118) (tgt := 122) C dL_isLane_118 (by decide) ?_
                  refine zj_istore (pc := 122) C dL_isLane_122 (Nat.le_of_ble_eq_true rfl) ?_
                  refine zj_iinc (pc := 124) (v := nI (k + 1)) C dL_isLane_124 rfl (nI_1 _) ?_
                  refine zj_goto (pc := 127) (tgt := 6) C dL_isLane_127 (by decide) ?_
                  refine zj_keep [true, true, true, true, true, true, false] ?_
                  exact ih (k + 1, true, u7) ⟨by show k + 1 ≤ kL g; omega, hu7, fun _ => rfl⟩ (by show kL g - (k + 1) < kL g - k; omega)
    · refine zj_aload_n (pc := 27) C dL_isLane_27 rfl ?_
      refine zj_iload (pc := 28) C dL_isLane_28 rfl ?_
      refine zj_iconst (pc := 30) (v := 1) C dL_isLane_30 (by decide) ?_
      refine zj_callQ (pc := 31) C kv_L_44 (q_LO hu2) dL_isLane_31 0 rfl rfl rfl rfl rfl rfl rfl (OB_rec hu2) rfl (fun u8 hu8 => ?_)
      refine zj_blk (bs' := [u8]) rfl ?_
      refine zj_top (x' := nI (lnC g (k) 1)) (v_LO hv (k := k) (c := 1) (by omega) (by decide)) ?_
      refine zj_iload_n (pc := 34) C dL_isLane_34 rfl ?_
      refine zj_icmp_eq (pc := 35) 60 C dL_isLane_35 (by decide) (fun c_35 => ?_) (fun c_35 => ?_)
      · refine zj_iconst (pc := 60) (v := 1) C dL_isLane_60 (by decide) ?_
        refine zj_goto (pc := 61) (tgt := 65) C dL_isLane_61 (by decide) ?_
        refine zj_istore (pc := 65) C dL_isLane_65 (Nat.le_of_ble_eq_true rfl) ?_
        refine zj_iload (pc := 67) C dL_isLane_67 rfl ?_
        refine zj_ifb_ne (pc := 69) 117 C dL_isLane_69 (by decide) (fun c_69 => ?_) (fun c_69 => ?_)
        · refine zj_iconst (pc := 117) (v := 1) C dL_isLane_117 (by decide) ?_
          refine zj_goto (pc := 118) (tgt := 122) C dL_isLane_118 (by decide) ?_
          refine zj_istore (pc := 122) C dL_isLane_122 (Nat.le_of_ble_eq_true rfl) ?_
          refine zj_iinc (pc := 124) (v := nI (k + 1)) C dL_isLane_124 rfl (nI_1 _) ?_
          refine zj_goto (pc := 127) (tgt := 6) C dL_isLane_127 (by decide) ?_
          refine zj_keep [true, true, true, true, true, true, false] ?_
          exact ih (k + 1, true, u8) ⟨by show k + 1 ≤ kL g; omega, hu8, fun _ => rfl⟩ (by show kL g - (k + 1) < kL g - k; omega)
        · refine zj_iload (pc := 72) C dL_isLane_72 rfl ?_
          refine zj_if_eq (pc := 74) 121 C dL_isLane_74 (by decide) (fun cq_ => absurd cq_ (by decide)) (fun _ => ?_)
          refine zj_aload_n (pc := 77) C dL_isLane_77 rfl ?_
          refine zj_iload (pc := 78) C dL_isLane_78 rfl ?_
          refine zj_bipush (pc := 80) (v := 6) C dL_isLane_80 (by decide) ?_
          refine zj_callQ (pc := 82) C kv_L_44 (q_LO hu8) dL_isLane_82 0 rfl rfl rfl rfl rfl rfl rfl (OB_rec hu8) rfl (fun u9 hu9 => ?_)
          refine zj_blk (bs' := [u9]) rfl ?_
          refine zj_top (x' := bI (told g (k))) (v_LO6 hv (k := k) (by omega)) ?_
          refine zj_iconst (pc := 85) (v := 1) C dL_isLane_85 (by decide) ?_
          refine zj_icmp_ne (pc := 86) 121 C dL_isLane_86 (by decide) (fun c_86 => ?_) (fun c_86 => ?_)
          · refine zj_iconst (pc := 121) (v := 0) C dL_isLane_121 (by decide) ?_
            refine zj_istore (pc := 122) C dL_isLane_122 (Nat.le_of_ble_eq_true rfl) ?_
            refine zj_iinc (pc := 124) (v := nI (k + 1)) C dL_isLane_124 rfl (nI_1 _) ?_
            refine zj_goto (pc := 127) (tgt := 6) C dL_isLane_127 (by decide) ?_
            refine zj_keep [true, true, true, true, true, true, false] ?_
            refine ih (k + 1, false, u9) ⟨by show k + 1 ≤ kL g; omega, hu9, fun hlt => ?_⟩ (by show kL g - (k + 1) < kL g - k; omega)
            have hlt : i0 < k + 1 := hlt
            exfalso
            rcases Nat.lt_or_ge i0 k with hl | hl
            · rw [hb hl] at c_69; cases c_69
            · have he : i0 = k := by omega
              subst he
              exact c_86 (by rw [ht]; rfl)
          · refine zj_iload_n (pc := 89) C dL_isLane_89 rfl ?_
            refine zj_if_ge (pc := 90) 106 C dL_isLane_90 (by decide) (fun c_90 => ?_) (fun c_90 => ?_)
            · refine zj_aload_n (pc := 106) C dL_isLane_106 rfl ?_
              refine zj_iload (pc := 107) C dL_isLane_107 rfl ?_
              refine zj_iconst (pc := 109) (v := 3) C dL_isLane_109 (by decide) ?_
              refine zj_callQ (pc := 110) C kv_L_44 (q_LO hu9) dL_isLane_110 0 rfl rfl rfl rfl rfl rfl rfl (OB_rec hu9) rfl (fun u10 hu10 => ?_)
              refine zj_blk (bs' := [u10]) rfl ?_
              refine zj_top (x' := nI (lnC g (k) 3)) (v_LO hv (k := k) (c := 3) (by omega) (by decide)) ?_
              refine zj_iload_n (pc := 113) C dL_isLane_113 rfl ?_
              refine zj_icmp_ne (pc := 114) 121 C dL_isLane_114 (by decide) (fun c_114 => ?_) (fun c_114 => ?_)
              · refine zj_iconst (pc := 121) (v := 0) C dL_isLane_121 (by decide) ?_
                refine zj_istore (pc := 122) C dL_isLane_122 (Nat.le_of_ble_eq_true rfl) ?_
                refine zj_iinc (pc := 124) (v := nI (k + 1)) C dL_isLane_124 rfl (nI_1 _) ?_
                refine zj_goto (pc := 127) (tgt := 6) C dL_isLane_127 (by decide) ?_
                refine zj_keep [true, true, true, true, true, true, false] ?_
                refine ih (k + 1, false, u10) ⟨by show k + 1 ≤ kL g; omega, hu10, fun hlt => ?_⟩ (by show kL g - (k + 1) < kL g - k; omega)
                have hlt : i0 < k + 1 := hlt
                exfalso
                rcases Nat.lt_or_ge i0 k with hl | hl
                · rw [hb hl] at c_69; cases c_69
                · have he : i0 = k := by omega
                  subst he
                  rcases hd with q | q
                  · exact absurd q.1 (Int32.not_lt.mpr c_90)
                  · exact c_114 q.2
              · refine zj_iconst (pc := 117) (v := 1) C dL_isLane_117 (by decide) ?_
                refine zj_goto (pc := 118) (tgt := 122) C dL_isLane_118 (by decide) ?_
                refine zj_istore (pc := 122) C dL_isLane_122 (Nat.le_of_ble_eq_true rfl) ?_
                refine zj_iinc (pc := 124) (v := nI (k + 1)) C dL_isLane_124 rfl (nI_1 _) ?_
                refine zj_goto (pc := 127) (tgt := 6) C dL_isLane_127 (by decide) ?_
                refine zj_keep [true, true, true, true, true, true, false] ?_
                exact ih (k + 1, true, u10) ⟨by show k + 1 ≤ kL g; omega, hu10, fun _ => rfl⟩ (by show kL g - (k + 1) < kL g - k; omega)
            · refine zj_aload_n (pc := 93) C dL_isLane_93 rfl ?_
              refine zj_iload (pc := 94) C dL_isLane_94 rfl ?_
              refine zj_iconst (pc := 96) (v := 3) C dL_isLane_96 (by decide) ?_
              refine zj_callQ (pc := 97) C kv_L_44 (q_LO hu9) dL_isLane_97 0 rfl rfl rfl rfl rfl rfl rfl (OB_rec hu9) rfl (fun u11 hu11 => ?_)
              refine zj_blk (bs' := [u11]) rfl ?_
              refine zj_top (x' := nI (lnC g (k) 3)) (v_LO hv (k := k) (c := 3) (by omega) (by decide)) ?_
              refine zj_if_le (pc := 100) 121 C dL_isLane_100 (by decide) (fun c_100 => ?_) (fun c_100 => ?_)
              · refine zj_iconst (pc := 121) (v := 0) C dL_isLane_121 (by decide) ?_
                refine zj_istore (pc := 122) C dL_isLane_122 (Nat.le_of_ble_eq_true rfl) ?_
                refine zj_iinc (pc := 124) (v := nI (k + 1)) C dL_isLane_124 rfl (nI_1 _) ?_
                refine zj_goto (pc := 127) (tgt := 6) C dL_isLane_127 (by decide) ?_
                refine zj_keep [true, true, true, true, true, true, false] ?_
                refine ih (k + 1, false, u11) ⟨by show k + 1 ≤ kL g; omega, hu11, fun hlt => ?_⟩ (by show kL g - (k + 1) < kL g - k; omega)
                have hlt : i0 < k + 1 := hlt
                exfalso
                rcases Nat.lt_or_ge i0 k with hl | hl
                · rw [hb hl] at c_69; cases c_69
                · have he : i0 = k := by omega
                  subst he
                  rcases hd with q | q
                  · exact nI_nle q.2 (by omega) c_100
                  · exact c_90 (Int32.not_lt.mp q.1)
              · refine zj_goto (pc := 103) (tgt := 117) C dL_isLane_103 (by decide) ?_
                refine zj_iconst (pc := 117) (v := 1) C dL_isLane_117 (by decide) ?_
                refine zj_goto (pc := 118) (tgt := 122) C dL_isLane_118 (by decide) ?_
                refine zj_istore (pc := 122) C dL_isLane_122 (Nat.le_of_ble_eq_true rfl) ?_
                refine zj_iinc (pc := 124) (v := nI (k + 1)) C dL_isLane_124 rfl (nI_1 _) ?_
                refine zj_goto (pc := 127) (tgt := 6) C dL_isLane_127 (by decide) ?_
                refine zj_keep [true, true, true, true, true, true, false] ?_
                exact ih (k + 1, true, u11) ⟨by show k + 1 ≤ kL g; omega, hu11, fun _ => rfl⟩ (by show kL g - (k + 1) < kL g - k; omega)
      · refine zj_aload_n (pc := 38) C dL_isLane_38 rfl ?_
        refine zj_iload (pc := 39) C dL_isLane_39 rfl ?_
        refine zj_iconst (pc := 41) (v := 1) C dL_isLane_41 (by decide) ?_
        refine zj_callQ (pc := 42) C kv_L_44 (q_LO hu8) dL_isLane_42 0 rfl rfl rfl rfl rfl rfl rfl (OB_rec hu8) rfl (fun u12 hu12 => ?_)
        refine zj_blk (bs' := [u12]) rfl ?_
        refine zj_top (x' := nI (lnC g (k) 1)) (v_LO hv (k := k) (c := 1) (by omega) (by decide)) ?_
        refine zj_iload_n (pc := 45) C dL_isLane_45 rfl ?_
        refine zj_icmp_ne (pc := 46) 64 C dL_isLane_46 (by decide) (fun c_46 => ?_) (fun c_46 => ?_)
        · refine zj_iconst (pc := 64) (v := 0) C dL_isLane_64 (by decide) ?_
          refine zj_istore (pc := 65) C dL_isLane_65 (Nat.le_of_ble_eq_true rfl) ?_
          refine zj_iload (pc := 67) C dL_isLane_67 rfl ?_
          refine zj_ifb_ne (pc := 69) 117 C dL_isLane_69 (by decide) (fun c_69 => ?_) (fun c_69 => ?_)
          · refine zj_iconst (pc := 117) (v := 1) C dL_isLane_117 (by decide) ?_
            refine zj_goto (pc := 118) (tgt := 122) C dL_isLane_118 (by decide) ?_
            refine zj_istore (pc := 122) C dL_isLane_122 (Nat.le_of_ble_eq_true rfl) ?_
            refine zj_iinc (pc := 124) (v := nI (k + 1)) C dL_isLane_124 rfl (nI_1 _) ?_
            refine zj_goto (pc := 127) (tgt := 6) C dL_isLane_127 (by decide) ?_
            refine zj_keep [true, true, true, true, true, true, false] ?_
            exact ih (k + 1, true, u12) ⟨by show k + 1 ≤ kL g; omega, hu12, fun _ => rfl⟩ (by show kL g - (k + 1) < kL g - k; omega)
          · refine zj_iload (pc := 72) C dL_isLane_72 rfl ?_
            refine zj_if_eq (pc := 74) 121 C dL_isLane_74 (by decide) (fun _ => ?_) (fun cq_ => absurd (by decide) cq_)
            refine zj_iconst (pc := 121) (v := 0) C dL_isLane_121 (by decide) ?_
            refine zj_istore (pc := 122) C dL_isLane_122 (Nat.le_of_ble_eq_true rfl) ?_
            refine zj_iinc (pc := 124) (v := nI (k + 1)) C dL_isLane_124 rfl (nI_1 _) ?_
            refine zj_goto (pc := 127) (tgt := 6) C dL_isLane_127 (by decide) ?_
            refine zj_keep [true, true, true, true, true, true, false] ?_
            refine ih (k + 1, false, u12) ⟨by show k + 1 ≤ kL g; omega, hu12, fun hlt => ?_⟩ (by show kL g - (k + 1) < kL g - k; omega)
            have hlt : i0 < k + 1 := hlt
            exfalso
            rcases Nat.lt_or_ge i0 k with hl | hl
            · rw [hb hl] at c_69; cases c_69
            · have he : i0 = k := by omega
              subst he
              rcases hj with ⟨h1, h2⟩ | ⟨h1, h2⟩
              · first | exact c_24 (congrArg nI h1) | exact c_35 (congrArg nI h2)
              · first | exact c_46 (congrArg nI h1) | exact c_57 (congrArg nI h2)
        · refine zj_aload_n (pc := 49) C dL_isLane_49 rfl ?_
          refine zj_iload (pc := 50) C dL_isLane_50 rfl ?_
          refine zj_iconst (pc := 52) (v := 0) C dL_isLane_52 (by decide) ?_
          refine zj_callQ (pc := 53) C kv_L_44 (q_LO hu12) dL_isLane_53 0 rfl rfl rfl rfl rfl rfl rfl (OB_rec hu12) rfl (fun u13 hu13 => ?_)
          refine zj_blk (bs' := [u13]) rfl ?_
          refine zj_top (x' := nI (lnC g (k) 0)) (v_LO hv (k := k) (c := 0) (by omega) (by decide)) ?_
          refine zj_iload_n (pc := 56) C dL_isLane_56 rfl ?_
          refine zj_icmp_ne (pc := 57) 64 C dL_isLane_57 (by decide) (fun c_57 => ?_) (fun c_57 => ?_)
          · refine zj_iconst (pc := 64) (v := 0) C dL_isLane_64 (by decide) ?_
            refine zj_istore (pc := 65) C dL_isLane_65 (Nat.le_of_ble_eq_true rfl) ?_
            refine zj_iload (pc := 67) C dL_isLane_67 rfl ?_
            refine zj_ifb_ne (pc := 69) 117 C dL_isLane_69 (by decide) (fun c_69 => ?_) (fun c_69 => ?_)
            · refine zj_iconst (pc := 117) (v := 1) C dL_isLane_117 (by decide) ?_
              refine zj_goto (pc := 118) (tgt := 122) C dL_isLane_118 (by decide) ?_
              refine zj_istore (pc := 122) C dL_isLane_122 (Nat.le_of_ble_eq_true rfl) ?_
              refine zj_iinc (pc := 124) (v := nI (k + 1)) C dL_isLane_124 rfl (nI_1 _) ?_
              refine zj_goto (pc := 127) (tgt := 6) C dL_isLane_127 (by decide) ?_
              refine zj_keep [true, true, true, true, true, true, false] ?_
              exact ih (k + 1, true, u13) ⟨by show k + 1 ≤ kL g; omega, hu13, fun _ => rfl⟩ (by show kL g - (k + 1) < kL g - k; omega)
            · refine zj_iload (pc := 72) C dL_isLane_72 rfl ?_
              refine zj_if_eq (pc := 74) 121 C dL_isLane_74 (by decide) (fun _ => ?_) (fun cq_ => absurd (by decide) cq_)
              refine zj_iconst (pc := 121) (v := 0) C dL_isLane_121 (by decide) ?_
              refine zj_istore (pc := 122) C dL_isLane_122 (Nat.le_of_ble_eq_true rfl) ?_
              refine zj_iinc (pc := 124) (v := nI (k + 1)) C dL_isLane_124 rfl (nI_1 _) ?_
              refine zj_goto (pc := 127) (tgt := 6) C dL_isLane_127 (by decide) ?_
              refine zj_keep [true, true, true, true, true, true, false] ?_
              refine ih (k + 1, false, u13) ⟨by show k + 1 ≤ kL g; omega, hu13, fun hlt => ?_⟩ (by show kL g - (k + 1) < kL g - k; omega)
              have hlt : i0 < k + 1 := hlt
              exfalso
              rcases Nat.lt_or_ge i0 k with hl | hl
              · rw [hb hl] at c_69; cases c_69
              · have he : i0 = k := by omega
                subst he
                rcases hj with ⟨h1, h2⟩ | ⟨h1, h2⟩
                · first | exact c_24 (congrArg nI h1) | exact c_35 (congrArg nI h2)
                · first | exact c_46 (congrArg nI h1) | exact c_57 (congrArg nI h2)
          · refine zj_iconst (pc := 60) (v := 1) C dL_isLane_60 (by decide) ?_
            refine zj_goto (pc := 61) (tgt := 65) C dL_isLane_61 (by decide) ?_
            refine zj_istore (pc := 65) C dL_isLane_65 (Nat.le_of_ble_eq_true rfl) ?_
            refine zj_iload (pc := 67) C dL_isLane_67 rfl ?_
            refine zj_ifb_ne (pc := 69) 117 C dL_isLane_69 (by decide) (fun c_69 => ?_) (fun c_69 => ?_)
            · refine zj_iconst (pc := 117) (v := 1) C dL_isLane_117 (by decide) ?_
              refine zj_goto (pc := 118) (tgt := 122) C dL_isLane_118 (by decide) ?_
              refine zj_istore (pc := 122) C dL_isLane_122 (Nat.le_of_ble_eq_true rfl) ?_
              refine zj_iinc (pc := 124) (v := nI (k + 1)) C dL_isLane_124 rfl (nI_1 _) ?_
              refine zj_goto (pc := 127) (tgt := 6) C dL_isLane_127 (by decide) ?_
              refine zj_keep [true, true, true, true, true, true, false] ?_
              exact ih (k + 1, true, u13) ⟨by show k + 1 ≤ kL g; omega, hu13, fun _ => rfl⟩ (by show kL g - (k + 1) < kL g - k; omega)
            · refine zj_iload (pc := 72) C dL_isLane_72 rfl ?_
              refine zj_if_eq (pc := 74) 121 C dL_isLane_74 (by decide) (fun cq_ => absurd cq_ (by decide)) (fun _ => ?_)
              refine zj_aload_n (pc := 77) C dL_isLane_77 rfl ?_
              refine zj_iload (pc := 78) C dL_isLane_78 rfl ?_
              refine zj_bipush (pc := 80) (v := 6) C dL_isLane_80 (by decide) ?_
              refine zj_callQ (pc := 82) C kv_L_44 (q_LO hu13) dL_isLane_82 0 rfl rfl rfl rfl rfl rfl rfl (OB_rec hu13) rfl (fun u14 hu14 => ?_)
              refine zj_blk (bs' := [u14]) rfl ?_
              refine zj_top (x' := bI (told g (k))) (v_LO6 hv (k := k) (by omega)) ?_
              refine zj_iconst (pc := 85) (v := 1) C dL_isLane_85 (by decide) ?_
              refine zj_icmp_ne (pc := 86) 121 C dL_isLane_86 (by decide) (fun c_86 => ?_) (fun c_86 => ?_)
              · refine zj_iconst (pc := 121) (v := 0) C dL_isLane_121 (by decide) ?_
                refine zj_istore (pc := 122) C dL_isLane_122 (Nat.le_of_ble_eq_true rfl) ?_
                refine zj_iinc (pc := 124) (v := nI (k + 1)) C dL_isLane_124 rfl (nI_1 _) ?_
                refine zj_goto (pc := 127) (tgt := 6) C dL_isLane_127 (by decide) ?_
                refine zj_keep [true, true, true, true, true, true, false] ?_
                refine ih (k + 1, false, u14) ⟨by show k + 1 ≤ kL g; omega, hu14, fun hlt => ?_⟩ (by show kL g - (k + 1) < kL g - k; omega)
                have hlt : i0 < k + 1 := hlt
                exfalso
                rcases Nat.lt_or_ge i0 k with hl | hl
                · rw [hb hl] at c_69; cases c_69
                · have he : i0 = k := by omega
                  subst he
                  exact c_86 (by rw [ht]; rfl)
              · refine zj_iload_n (pc := 89) C dL_isLane_89 rfl ?_
                refine zj_if_ge (pc := 90) 106 C dL_isLane_90 (by decide) (fun c_90 => ?_) (fun c_90 => ?_)
                · refine zj_aload_n (pc := 106) C dL_isLane_106 rfl ?_
                  refine zj_iload (pc := 107) C dL_isLane_107 rfl ?_
                  refine zj_iconst (pc := 109) (v := 3) C dL_isLane_109 (by decide) ?_
                  refine zj_callQ (pc := 110) C kv_L_44 (q_LO hu14) dL_isLane_110 0 rfl rfl rfl rfl rfl rfl rfl (OB_rec hu14) rfl (fun u15 hu15 => ?_)
                  refine zj_blk (bs' := [u15]) rfl ?_
                  refine zj_top (x' := nI (lnC g (k) 3)) (v_LO hv (k := k) (c := 3) (by omega) (by decide)) ?_
                  refine zj_iload_n (pc := 113) C dL_isLane_113 rfl ?_
                  refine zj_icmp_ne (pc := 114) 121 C dL_isLane_114 (by decide) (fun c_114 => ?_) (fun c_114 => ?_)
                  · refine zj_iconst (pc := 121) (v := 0) C dL_isLane_121 (by decide) ?_
                    refine zj_istore (pc := 122) C dL_isLane_122 (Nat.le_of_ble_eq_true rfl) ?_
                    refine zj_iinc (pc := 124) (v := nI (k + 1)) C dL_isLane_124 rfl (nI_1 _) ?_
                    refine zj_goto (pc := 127) (tgt := 6) C dL_isLane_127 (by decide) ?_
                    refine zj_keep [true, true, true, true, true, true, false] ?_
                    refine ih (k + 1, false, u15) ⟨by show k + 1 ≤ kL g; omega, hu15, fun hlt => ?_⟩ (by show kL g - (k + 1) < kL g - k; omega)
                    have hlt : i0 < k + 1 := hlt
                    exfalso
                    rcases Nat.lt_or_ge i0 k with hl | hl
                    · rw [hb hl] at c_69; cases c_69
                    · have he : i0 = k := by omega
                      subst he
                      rcases hd with q | q
                      · exact absurd q.1 (Int32.not_lt.mpr c_90)
                      · exact c_114 q.2
                  · refine zj_iconst (pc := 117) (v := 1) C dL_isLane_117 (by decide) ?_
                    refine zj_goto (pc := 118) (tgt := 122) C dL_isLane_118 (by decide) ?_
                    refine zj_istore (pc := 122) C dL_isLane_122 (Nat.le_of_ble_eq_true rfl) ?_
                    refine zj_iinc (pc := 124) (v := nI (k + 1)) C dL_isLane_124 rfl (nI_1 _) ?_
                    refine zj_goto (pc := 127) (tgt := 6) C dL_isLane_127 (by decide) ?_
                    refine zj_keep [true, true, true, true, true, true, false] ?_
                    exact ih (k + 1, true, u15) ⟨by show k + 1 ≤ kL g; omega, hu15, fun _ => rfl⟩ (by show kL g - (k + 1) < kL g - k; omega)
                · refine zj_aload_n (pc := 93) C dL_isLane_93 rfl ?_
                  refine zj_iload (pc := 94) C dL_isLane_94 rfl ?_
                  refine zj_iconst (pc := 96) (v := 3) C dL_isLane_96 (by decide) ?_
                  refine zj_callQ (pc := 97) C kv_L_44 (q_LO hu14) dL_isLane_97 0 rfl rfl rfl rfl rfl rfl rfl (OB_rec hu14) rfl (fun u16 hu16 => ?_)
                  refine zj_blk (bs' := [u16]) rfl ?_
                  refine zj_top (x' := nI (lnC g (k) 3)) (v_LO hv (k := k) (c := 3) (by omega) (by decide)) ?_
                  refine zj_if_le (pc := 100) 121 C dL_isLane_100 (by decide) (fun c_100 => ?_) (fun c_100 => ?_)
                  · refine zj_iconst (pc := 121) (v := 0) C dL_isLane_121 (by decide) ?_
                    refine zj_istore (pc := 122) C dL_isLane_122 (Nat.le_of_ble_eq_true rfl) ?_
                    refine zj_iinc (pc := 124) (v := nI (k + 1)) C dL_isLane_124 rfl (nI_1 _) ?_
                    refine zj_goto (pc := 127) (tgt := 6) C dL_isLane_127 (by decide) ?_
                    refine zj_keep [true, true, true, true, true, true, false] ?_
                    refine ih (k + 1, false, u16) ⟨by show k + 1 ≤ kL g; omega, hu16, fun hlt => ?_⟩ (by show kL g - (k + 1) < kL g - k; omega)
                    have hlt : i0 < k + 1 := hlt
                    exfalso
                    rcases Nat.lt_or_ge i0 k with hl | hl
                    · rw [hb hl] at c_69; cases c_69
                    · have he : i0 = k := by omega
                      subst he
                      rcases hd with q | q
                      · exact nI_nle q.2 (by omega) c_100
                      · exact c_90 (Int32.not_lt.mp q.1)
                  · refine zj_goto (pc := 103) (tgt := 117) C dL_isLane_103 (by decide) ?_
                    refine zj_iconst (pc := 117) (v := 1) C dL_isLane_117 (by decide) ?_
                    refine zj_goto (pc := 118) (tgt := 122) C dL_isLane_118 (by decide) ?_
                    refine zj_istore (pc := 122) C dL_isLane_122 (Nat.le_of_ble_eq_true rfl) ?_
                    refine zj_iinc (pc := 124) (v := nI (k + 1)) C dL_isLane_124 rfl (nI_1 _) ?_
                    refine zj_goto (pc := 127) (tgt := 6) C dL_isLane_127 (by decide) ?_
                    refine zj_keep [true, true, true, true, true, true, false] ?_
                    exact ih (k + 1, true, u16) ⟨by show k + 1 ≤ kL g; omega, hu16, fun _ => rfl⟩ (by show kL g - (k + 1) < kL g - k; omega)
set_option maxRecDepth 100000 in
set_option maxHeartbeats 4000000 in
theorem m_L_pairs {l : Launch} {G : GG} {a : Nat} {g : Nat → Nat} {hn : Nat} {F : (Nat → PC) → Prop} {w0 : va_W} (h : OBX G a g hn F w0) : zX l G yL_pairs cL_pairs 3 (some .int) 8 185 0 0 [.ref a] (w0) (zQ (.int (nI (prN g (kA g)))) (OBX G a g hn F)) := by
  refine zj_startF RL (by decide +kernel) rfl rfl rfl (bs := [w0]) (by simp) (lo := [some (.ref a), none, none]) rfl ?_
  intro p0 e0 s0 m0 args0 below0 meth0 c0 A0 C hr hlocks
  have hv := (OBX_v h).1
  have h12 := hv.2.1
  refine zj_iconst (pc := 0) (v := 0) C dL_pairs_0 (by decide) ?_
  refine zj_istore_n (pc := 1) C dL_pairs_1 (Nat.le_of_ble_eq_true rfl) ?_
  refine zj_iconst (pc := 2) (v := 0) C dL_pairs_2 (by decide) ?_
  refine zj_istore_n (pc := 3) C dL_pairs_3 (Nat.le_of_ble_eq_true rfl) ?_
  refine zj_keep [true, true, true] ?_
  refine zj_loopW (σ := Nat × va_W) (fun x => x.1 ≤ kA g ∧ OBX G a g hn F x.2) (fun x => kA g - x.1) (fun x => [x.2]) (fun x => [some (.ref a), some (.int (nI (prN g x.1))), some (.int (nI x.1))]) ?_ (0, w0) ⟨Nat.zero_le _, h⟩
  rintro ⟨k, u0⟩ ⟨hk, hu0⟩ ih
  have hk : k ≤ kA g := hk
  refine zj_eq (bs' := [u0]) (lo' := [some (.ref a), some (.int (nI (prN g k))), some (.int (nI (k)))]) rfl rfl rfl ?_
  refine zj_iload_n (pc := 4) C dL_pairs_4 rfl ?_
  refine zj_aload_n (pc := 5) C dL_pairs_5 rfl ?_
  refine zj_iconst (pc := 6) (v := 2) C dL_pairs_6 (by decide) ?_
  refine zj_callQ (pc := 7) C kv_L_24 (qx_CT hu0 (fun W tn => v_CT2)) dL_pairs_7 0 rfl rfl rfl rfl rfl rfl rfl (OBX_rec hu0) rfl (fun u1 hu1 => ?_)
  refine zj_blk (bs' := [u1]) rfl ?_
  refine zj_icmp_ge (pc := 10) 28 C dL_pairs_10 (by decide) (fun c_10 => ?_) (fun c_10 => ?_)
  · have hke : k = kA g := by have := (nI_leI (a := kA g) (b := k) (by omega) (by omega)).mp c_10; omega
    refine zj_iload_n (pc := 28) C dL_pairs_28 rfl ?_
    refine zj_iret C hr hlocks dL_pairs_29 ⟨by rw [hke], ?_⟩
    rw [fl1]
    exact hu1
  · have hkl : k < kA g := by have := mt (nI_leI (a := kA g) (b := k) (by omega) (by omega)).mpr c_10; omega
    refine zj_iload_n (pc := 13) C dL_pairs_13 rfl ?_
    refine zj_aload_n (pc := 14) C dL_pairs_14 rfl ?_
    refine zj_iload_n (pc := 15) C dL_pairs_15 rfl ?_
    refine zj_iconst (pc := 16) (v := 3) C dL_pairs_16 (by decide) ?_
    refine zj_callQ (pc := 17) C kv_L_47 (qx_AO (r := nI (cntB (fun y => !(RR g (k) y == 0)) 14)) hu1 (fun W hW => v_AO3 hv hW (k := k) (by omega))) dL_pairs_17 0 rfl rfl rfl rfl rfl rfl rfl (OBX_rec hu1) rfl (fun u2 hu2 => ?_)
    refine zj_blk (bs' := [u2]) rfl ?_
    refine zj_iadd (pc := 20) C dL_pairs_20 ?_
    refine zj_top (x' := nI (prN g k + cntB (fun y => !(RR g (k) y == 0)) 14)) (nI_add (prN g k) (cntB (fun y => !(RR g (k) y == 0)) 14)) ?_
    refine zj_istore_n (pc := 21) C dL_pairs_21 (Nat.le_of_ble_eq_true rfl) ?_
    refine zj_iinc (pc := 22) (v := nI (k + 1)) C dL_pairs_22 rfl (nI_1 _) ?_
    refine zj_goto (pc := 25) (tgt := 4) C dL_pairs_25 (by decide) ?_
    exact ih (k + 1, u2) ⟨by show k + 1 ≤ kA g; omega, hu2⟩ (by show kA g - (k + 1) < kA g - k; omega)
set_option maxRecDepth 100000 in
set_option maxHeartbeats 4000000 in
theorem m_L_areAlike {l : Launch} {G : GG} {a b : Nat} {g : Nat → Nat} {hn hm : Nat} {F E : (Nat → PC) → Prop} {w0 w1 : va_W} (h : OBX G a g hn F w0) (h1 : OBX G b g hm E w1) : zX l G yL_areAlike cL_areAlike 4 (some .boolean) 8 185 0 0 [.ref a, .ref b] (w0 ++ w1) (zQ (.int 1) (fun w => ∃ u0 u1, w = u0 ++ u1 ∧ OBX G a g hn F u0 ∧ OBX G b g hm E u1)) := by
  refine zj_startF RL (by decide +kernel) rfl rfl rfl (bs := [w0, w1]) (by simp) (lo := [some (.ref a), some (.ref b), none, none]) rfl ?_
  intro p0 e0 s0 m0 args0 below0 meth0 c0 A0 C hr hlocks
  have hv := (OBX_v h).1
  have h24 := hv.1
  have h12 := hv.2.1
  refine zj_aload_n (pc := 0) C dL_areAlike_0 rfl ?_
  refine zj_iconst (pc := 1) (v := 0) C dL_areAlike_1 (by decide) ?_
  refine zj_callQ (pc := 2) C kv_L_24 (qx_CT h (fun W tn => v_CT0)) dL_areAlike_2 0 rfl rfl rfl rfl rfl rfl rfl (OBX_rec h) rfl (fun u1 hu1 => ?_)
  refine zj_blk (bs' := [u1, w1]) rfl ?_
  refine zj_aload_n (pc := 5) C dL_areAlike_5 rfl ?_
  refine zj_iconst (pc := 6) (v := 0) C dL_areAlike_6 (by decide) ?_
  refine zj_callQ (pc := 7) C kv_L_24 (qx_CT h1 (fun W tn => v_CT0)) dL_areAlike_7 1 rfl rfl rfl rfl rfl rfl rfl (OBX_rec h1) rfl (fun u2 hu2 => ?_)
  refine zj_blk (bs' := [u1, u2]) rfl ?_
  refine zj_icmp_ne (pc := 10) 43 C dL_areAlike_10 (by decide) (fun cq_ => absurd rfl cq_) (fun _ => ?_)
  refine zj_aload_n (pc := 13) C dL_areAlike_13 rfl ?_
  refine zj_iconst (pc := 14) (v := 1) C dL_areAlike_14 (by decide) ?_
  refine zj_callQ (pc := 15) C kv_L_24 (qx_CT hu1 (fun W tn => v_CT1)) dL_areAlike_15 0 rfl rfl rfl rfl rfl rfl rfl (OBX_rec hu1) rfl (fun u3 hu3 => ?_)
  refine zj_blk (bs' := [u3, u2]) rfl ?_
  refine zj_aload_n (pc := 18) C dL_areAlike_18 rfl ?_
  refine zj_iconst (pc := 19) (v := 1) C dL_areAlike_19 (by decide) ?_
  refine zj_callQ (pc := 20) C kv_L_24 (qx_CT hu2 (fun W tn => v_CT1)) dL_areAlike_20 1 rfl rfl rfl rfl rfl rfl rfl (OBX_rec hu2) rfl (fun u4 hu4 => ?_)
  refine zj_blk (bs' := [u3, u4]) rfl ?_
  refine zj_icmp_ne (pc := 23) 43 C dL_areAlike_23 (by decide) (fun cq_ => absurd rfl cq_) (fun _ => ?_)
  refine zj_aload_n (pc := 26) C dL_areAlike_26 rfl ?_
  refine zj_iconst (pc := 27) (v := 2) C dL_areAlike_27 (by decide) ?_
  refine zj_callQ (pc := 28) C kv_L_24 (qx_CT hu3 (fun W tn => v_CT2)) dL_areAlike_28 0 rfl rfl rfl rfl rfl rfl rfl (OBX_rec hu3) rfl (fun u5 hu5 => ?_)
  refine zj_blk (bs' := [u5, u4]) rfl ?_
  refine zj_aload_n (pc := 31) C dL_areAlike_31 rfl ?_
  refine zj_iconst (pc := 32) (v := 2) C dL_areAlike_32 (by decide) ?_
  refine zj_callQ (pc := 33) C kv_L_24 (qx_CT hu4 (fun W tn => v_CT2)) dL_areAlike_33 1 rfl rfl rfl rfl rfl rfl rfl (OBX_rec hu4) rfl (fun u6 hu6 => ?_)
  refine zj_blk (bs' := [u5, u6]) rfl ?_
  refine zj_icmp_ne (pc := 36) 43 C dL_areAlike_36 (by decide) (fun cq_ => absurd rfl cq_) (fun _ => ?_)
  refine zj_iconst (pc := 39) (v := 1) C dL_areAlike_39 (by decide) ?_
  refine zj_goto (pc := 40) (tgt := 44) C dL_areAlike_40 (by decide) ?_
  refine zj_istore_n (pc := 44) C dL_areAlike_44 (Nat.le_of_ble_eq_true rfl) ?_
  refine zj_iconst (pc := 45) (v := 0) C dL_areAlike_45 (by decide) ?_
  refine zj_istore_n (pc := 46) C dL_areAlike_46 (Nat.le_of_ble_eq_true rfl) ?_
  refine zj_keep [true, true, true, true] ?_
  refine zj_loopW (σ := Nat × va_W × va_W) (fun x => x.1 ≤ 56 ∧ OBX G a g hn F x.2.1 ∧ OBX G b g hm E x.2.2) (fun x => 56 - x.1) (fun x => [x.2.1, x.2.2]) (fun x => [some (.ref a), some (.ref b), some (.int 1), some (.int (nI x.1))]) ?_ (0, u5, u6) ⟨Nat.zero_le _, hu5, hu6⟩
  rintro ⟨k, v0, v1⟩ ⟨hk, hv0, hv1⟩ ih
  have hk : k ≤ 56 := hk
  refine zj_eq (bs' := [v0, v1]) (lo' := [some (.ref a), some (.ref b), some (.int (1)), some (.int (nI (k)))]) rfl rfl rfl ?_
  refine zj_iload_n (pc := 47) C dL_areAlike_47 rfl ?_
  refine zj_bipush (pc := 48) (v := 56) C dL_areAlike_48 (by decide) ?_
  refine zj_icmp_ge (pc := 50) 92 C dL_areAlike_50 (by decide) (fun c_50 => ?_) (fun c_50 => ?_)
  · refine zj_iconst (pc := 92) (v := 0) C dL_areAlike_92 (by decide) ?_
    refine zj_istore_n (pc := 93) C dL_areAlike_93 (Nat.le_of_ble_eq_true rfl) ?_
    refine zj_keep [true, true, true, true] ?_
    refine zj_loopW (σ := Nat × va_W × va_W) (fun x => x.1 ≤ 7 * kL g ∧ OBX G a g hn F x.2.1 ∧ OBX G b g hm E x.2.2) (fun x => 7 * kL g - x.1) (fun x => [x.2.1, x.2.2]) (fun x => [some (.ref a), some (.ref b), some (.int 1), some (.int (nI x.1))]) ?_ (0, v0, v1) ⟨Nat.zero_le _, hv0, hv1⟩
    rintro ⟨k, v0, v1⟩ ⟨hk, hv0, hv1⟩ ih
    have hk : k ≤ 7 * kL g := hk
    refine zj_eq (bs' := [v0, v1]) (lo' := [some (.ref a), some (.ref b), some (.int (1)), some (.int (nI (k)))]) rfl rfl rfl ?_
    refine zj_iload_n (pc := 94) C dL_areAlike_94 rfl ?_
    refine zj_bipush (pc := 95) (v := 7) C dL_areAlike_95 (by decide) ?_
    refine zj_aload_n (pc := 97) C dL_areAlike_97 rfl ?_
    refine zj_iconst (pc := 98) (v := 0) C dL_areAlike_98 (by decide) ?_
    refine zj_callQ (pc := 99) C kv_L_24 (qx_CT hv0 (fun W tn => v_CT0)) dL_areAlike_99 0 rfl rfl rfl rfl rfl rfl rfl (OBX_rec hv0) rfl (fun u7 hu7 => ?_)
    refine zj_blk (bs' := [u7, v1]) rfl ?_
    refine zj_imul (pc := 102) C dL_areAlike_102 ?_
    refine zj_top (x' := nI (7 * kL g)) (pk_mul (7) (kL g)) ?_
    refine zj_icmp_ge (pc := 103) 149 C dL_areAlike_103 (by decide) (fun c_103 => ?_) (fun c_103 => ?_)
    · refine zj_iconst (pc := 149) (v := 0) C dL_areAlike_149 (by decide) ?_
      refine zj_istore_n (pc := 150) C dL_areAlike_150 (Nat.le_of_ble_eq_true rfl) ?_
      refine zj_keep [true, true, true, true] ?_
      refine zj_loopW (σ := Nat × va_W × va_W) (fun x => x.1 ≤ 3 * kA g ∧ OBX G a g hn F x.2.1 ∧ OBX G b g hm E x.2.2) (fun x => 3 * kA g - x.1) (fun x => [x.2.1, x.2.2]) (fun x => [some (.ref a), some (.ref b), some (.int 1), some (.int (nI x.1))]) ?_ (0, u7, v1) ⟨Nat.zero_le _, hu7, hv1⟩
      rintro ⟨k, v0, v1⟩ ⟨hk, hv0, hv1⟩ ih
      have hk : k ≤ 3 * kA g := hk
      refine zj_eq (bs' := [v0, v1]) (lo' := [some (.ref a), some (.ref b), some (.int (1)), some (.int (nI (k)))]) rfl rfl rfl ?_
      refine zj_iload_n (pc := 151) C dL_areAlike_151 rfl ?_
      refine zj_iconst (pc := 152) (v := 3) C dL_areAlike_152 (by decide) ?_
      refine zj_aload_n (pc := 153) C dL_areAlike_153 rfl ?_
      refine zj_iconst (pc := 154) (v := 2) C dL_areAlike_154 (by decide) ?_
      refine zj_callQ (pc := 155) C kv_L_24 (qx_CT hv0 (fun W tn => v_CT2)) dL_areAlike_155 0 rfl rfl rfl rfl rfl rfl rfl (OBX_rec hv0) rfl (fun u8 hu8 => ?_)
      refine zj_blk (bs' := [u8, v1]) rfl ?_
      refine zj_imul (pc := 158) C dL_areAlike_158 ?_
      refine zj_top (x' := nI (3 * kA g)) (pk_mul (3) (kA g)) ?_
      refine zj_icmp_ge (pc := 159) 201 C dL_areAlike_159 (by decide) (fun c_159 => ?_) (fun c_159 => ?_)
      · refine zj_iload_n (pc := 201) C dL_areAlike_201 rfl ?_
        refine zj_zret C hr hlocks dL_areAlike_202 (Or.inr rfl) ⟨rfl, _, _, fl2 _ _, ?_, ?_⟩
        · exact hu8
        · exact hv1
      · have hkl : k < 3 * kA g := by have := mt (nI_leI (a := 3 * kA g) (b := k) (by omega) (by omega)).mpr c_159; omega
        refine zj_iload_n (pc := 162) C dL_areAlike_162 rfl ?_
        refine zj_if_eq (pc := 163) 193 C dL_areAlike_163 (by decide) (fun cq_ => absurd cq_ (by decide)) (fun _ => ?_)
        refine zj_aload_n (pc := 166) C dL_areAlike_166 rfl ?_
        refine zj_iload_n (pc := 167) C dL_areAlike_167 rfl ?_
        refine zj_iconst (pc := 168) (v := 3) C dL_areAlike_168 (by decide) ?_
        refine zj_idiv (pc := 169) C dL_areAlike_169 (by decide) ?_
        refine zj_top (x' := nI ((k) / 3)) (pk_div (a := k) (d := 3) (by omega) (by decide) (by decide)) ?_
        refine zj_iload_n (pc := 170) C dL_areAlike_170 rfl ?_
        refine zj_iconst (pc := 171) (v := 3) C dL_areAlike_171 (by decide) ?_
        refine zj_irem (pc := 172) C dL_areAlike_172 (by decide) ?_
        refine zj_top (x' := nI ((k) % 3)) (pk_rem (a := k) (d := 3) (by omega) (by decide) (by decide)) ?_
        refine zj_callQ (pc := 173) C kv_L_47 (qx_AO (r := nI (alC g ((k) / 3) ((k) % 3))) hu8 (fun W hW => v_AO hv (k := (k) / 3) (c := (k) % 3) (by omega) (by omega))) dL_areAlike_173 0 rfl rfl rfl rfl rfl rfl rfl (OBX_rec hu8) rfl (fun u9 hu9 => ?_)
        refine zj_blk (bs' := [u9, v1]) rfl ?_
        refine zj_aload_n (pc := 176) C dL_areAlike_176 rfl ?_
        refine zj_iload_n (pc := 177) C dL_areAlike_177 rfl ?_
        refine zj_iconst (pc := 178) (v := 3) C dL_areAlike_178 (by decide) ?_
        refine zj_idiv (pc := 179) C dL_areAlike_179 (by decide) ?_
        refine zj_top (x' := nI ((k) / 3)) (pk_div (a := k) (d := 3) (by omega) (by decide) (by decide)) ?_
        refine zj_iload_n (pc := 180) C dL_areAlike_180 rfl ?_
        refine zj_iconst (pc := 181) (v := 3) C dL_areAlike_181 (by decide) ?_
        refine zj_irem (pc := 182) C dL_areAlike_182 (by decide) ?_
        refine zj_top (x' := nI ((k) % 3)) (pk_rem (a := k) (d := 3) (by omega) (by decide) (by decide)) ?_
        refine zj_callQ (pc := 183) C kv_L_47 (qx_AO (r := nI (alC g ((k) / 3) ((k) % 3))) hv1 (fun W hW => v_AO hv (k := (k) / 3) (c := (k) % 3) (by omega) (by omega))) dL_areAlike_183 1 rfl rfl rfl rfl rfl rfl rfl (OBX_rec hv1) rfl (fun u10 hu10 => ?_)
        refine zj_blk (bs' := [u9, u10]) rfl ?_
        refine zj_icmp_ne (pc := 186) 193 C dL_areAlike_186 (by decide) (fun cq_ => absurd rfl cq_) (fun _ => ?_)
        refine zj_iconst (pc := 189) (v := 1) C dL_areAlike_189 (by decide) ?_
        refine zj_goto (pc := 190) (tgt := 194) C dL_areAlike_190 (by decide) ?_
        refine zj_istore_n (pc := 194) C dL_areAlike_194 (Nat.le_of_ble_eq_true rfl) ?_
        refine zj_iinc (pc := 195) (v := nI (k + 1)) C dL_areAlike_195 rfl (nI_1 _) ?_
        refine zj_goto (pc := 198) (tgt := 151) C dL_areAlike_198 (by decide) ?_
        exact ih (k + 1, u9, u10) ⟨by show k + 1 ≤ 3 * kA g; omega, hu9, hu10⟩ (by show 3 * kA g - (k + 1) < 3 * kA g - k; omega)
    · have hkl : k < 7 * kL g := by have := mt (nI_leI (a := 7 * kL g) (b := k) (by omega) (by omega)).mpr c_103; omega
      refine zj_iload_n (pc := 106) C dL_areAlike_106 rfl ?_
      refine zj_if_eq (pc := 107) 141 C dL_areAlike_107 (by decide) (fun cq_ => absurd cq_ (by decide)) (fun _ => ?_)
      refine zj_aload_n (pc := 110) C dL_areAlike_110 rfl ?_
      refine zj_iload_n (pc := 111) C dL_areAlike_111 rfl ?_
      refine zj_bipush (pc := 112) (v := 7) C dL_areAlike_112 (by decide) ?_
      refine zj_idiv (pc := 114) C dL_areAlike_114 (by decide) ?_
      refine zj_top (x' := nI ((k) / 7)) (pk_div (a := k) (d := 7) (by omega) (by decide) (by decide)) ?_
      refine zj_iload_n (pc := 115) C dL_areAlike_115 rfl ?_
      refine zj_bipush (pc := 116) (v := 7) C dL_areAlike_116 (by decide) ?_
      refine zj_irem (pc := 118) C dL_areAlike_118 (by decide) ?_
      refine zj_top (x' := nI ((k) % 7)) (pk_rem (a := k) (d := 7) (by omega) (by decide) (by decide)) ?_
      refine zj_callQ (pc := 119) C kv_L_44 (qx_LO (x := nI ((k) / 7)) (y := nI ((k) % 7)) hu7) dL_areAlike_119 0 rfl rfl rfl rfl rfl rfl rfl (OBX_rec hu7) rfl (fun u11 hu11 => ?_)
      refine zj_blk (bs' := [u11, v1]) rfl ?_
      refine zj_aload_n (pc := 122) C dL_areAlike_122 rfl ?_
      refine zj_iload_n (pc := 123) C dL_areAlike_123 rfl ?_
      refine zj_bipush (pc := 124) (v := 7) C dL_areAlike_124 (by decide) ?_
      refine zj_idiv (pc := 126) C dL_areAlike_126 (by decide) ?_
      refine zj_top (x' := nI ((k) / 7)) (pk_div (a := k) (d := 7) (by omega) (by decide) (by decide)) ?_
      refine zj_iload_n (pc := 127) C dL_areAlike_127 rfl ?_
      refine zj_bipush (pc := 128) (v := 7) C dL_areAlike_128 (by decide) ?_
      refine zj_irem (pc := 130) C dL_areAlike_130 (by decide) ?_
      refine zj_top (x' := nI ((k) % 7)) (pk_rem (a := k) (d := 7) (by omega) (by decide) (by decide)) ?_
      refine zj_callQ (pc := 131) C kv_L_44 (qx_LO (x := nI ((k) / 7)) (y := nI ((k) % 7)) hv1) dL_areAlike_131 1 rfl rfl rfl rfl rfl rfl rfl (OBX_rec hv1) rfl (fun u12 hu12 => ?_)
      refine zj_blk (bs' := [u11, u12]) rfl ?_
      refine zj_icmp_ne (pc := 134) 141 C dL_areAlike_134 (by decide) (fun cq_ => absurd rfl cq_) (fun _ => ?_)
      refine zj_iconst (pc := 137) (v := 1) C dL_areAlike_137 (by decide) ?_
      refine zj_goto (pc := 138) (tgt := 142) C dL_areAlike_138 (by decide) ?_
      refine zj_istore_n (pc := 142) C dL_areAlike_142 (Nat.le_of_ble_eq_true rfl) ?_
      refine zj_iinc (pc := 143) (v := nI (k + 1)) C dL_areAlike_143 rfl (nI_1 _) ?_
      refine zj_goto (pc := 146) (tgt := 94) C dL_areAlike_146 (by decide) ?_
      exact ih (k + 1, u11, u12) ⟨by show k + 1 ≤ 7 * kL g; omega, hu11, hu12⟩ (by show 7 * kL g - (k + 1) < 7 * kL g - k; omega)
  · have hkl : k < 56 := by have := mt (nI_leI (a := 56) (b := k) (by omega) (by omega)).mpr c_50; omega
    refine zj_iload_n (pc := 53) C dL_areAlike_53 rfl ?_
    refine zj_if_eq (pc := 54) 84 C dL_areAlike_54 (by decide) (fun cq_ => absurd cq_ (by decide)) (fun _ => ?_)
    refine zj_aload_n (pc := 57) C dL_areAlike_57 rfl ?_
    refine zj_iload_n (pc := 58) C dL_areAlike_58 rfl ?_
    refine zj_iconst (pc := 59) (v := 4) C dL_areAlike_59 (by decide) ?_
    refine zj_idiv (pc := 60) C dL_areAlike_60 (by decide) ?_
    refine zj_top (x' := nI ((k) / 4)) (pk_div (a := k) (d := 4) (by omega) (by decide) (by decide)) ?_
    refine zj_iload_n (pc := 61) C dL_areAlike_61 rfl ?_
    refine zj_iconst (pc := 62) (v := 4) C dL_areAlike_62 (by decide) ?_
    refine zj_irem (pc := 63) C dL_areAlike_63 (by decide) ?_
    refine zj_top (x' := nI ((k) % 4)) (pk_rem (a := k) (d := 4) (by omega) (by decide) (by decide)) ?_
    refine zj_callQ (pc := 64) C kv_L_41 (qx_CO (r := (crV g ((k) / 4) ((k) % 4))) hv0 (fun W hW => v_CO hW (x := (k) / 4) (c := (k) % 4) (by omega) (by omega))) dL_areAlike_64 0 rfl rfl rfl rfl rfl rfl rfl (OBX_rec hv0) rfl (fun u13 hu13 => ?_)
    refine zj_blk (bs' := [u13, v1]) rfl ?_
    refine zj_aload_n (pc := 67) C dL_areAlike_67 rfl ?_
    refine zj_iload_n (pc := 68) C dL_areAlike_68 rfl ?_
    refine zj_iconst (pc := 69) (v := 4) C dL_areAlike_69 (by decide) ?_
    refine zj_idiv (pc := 70) C dL_areAlike_70 (by decide) ?_
    refine zj_top (x' := nI ((k) / 4)) (pk_div (a := k) (d := 4) (by omega) (by decide) (by decide)) ?_
    refine zj_iload_n (pc := 71) C dL_areAlike_71 rfl ?_
    refine zj_iconst (pc := 72) (v := 4) C dL_areAlike_72 (by decide) ?_
    refine zj_irem (pc := 73) C dL_areAlike_73 (by decide) ?_
    refine zj_top (x' := nI ((k) % 4)) (pk_rem (a := k) (d := 4) (by omega) (by decide) (by decide)) ?_
    refine zj_callQ (pc := 74) C kv_L_41 (qx_CO (r := (crV g ((k) / 4) ((k) % 4))) hv1 (fun W hW => v_CO hW (x := (k) / 4) (c := (k) % 4) (by omega) (by omega))) dL_areAlike_74 1 rfl rfl rfl rfl rfl rfl rfl (OBX_rec hv1) rfl (fun u14 hu14 => ?_)
    refine zj_blk (bs' := [u13, u14]) rfl ?_
    refine zj_icmp_ne (pc := 77) 84 C dL_areAlike_77 (by decide) (fun cq_ => absurd rfl cq_) (fun _ => ?_)
    refine zj_iconst (pc := 80) (v := 1) C dL_areAlike_80 (by decide) ?_
    refine zj_goto (pc := 81) (tgt := 85) C dL_areAlike_81 (by decide) ?_
    refine zj_istore_n (pc := 85) C dL_areAlike_85 (Nat.le_of_ble_eq_true rfl) ?_
    refine zj_iinc (pc := 86) (v := nI (k + 1)) C dL_areAlike_86 rfl (nI_1 _) ?_
    refine zj_goto (pc := 89) (tgt := 47) C dL_areAlike_89 (by decide) ?_
    exact ih (k + 1, u13, u14) ⟨by show k + 1 ≤ 56; omega, hu13, hu14⟩ (by show 56 - (k + 1) < 56 - k; omega)
