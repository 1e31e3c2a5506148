set_option maxRecDepth 100000 in
set_option maxHeartbeats 4000000 in
theorem m_X4_sumUpAlley {l : Launch} {G : GG} {a : Nat → Nat} {D : Nat → Nat → Nat → Nat} {di ga su ru : Nat → Nat} {n : Nat} {b : Nat → Nat} {P : PC} {g : Nat → Nat} {al : Nat} (hT : TBd D di ga su ru) (hP : PR g P) (hv : Vg g) (hal : al < kA g) (hsu : ∀ x, x < 14 → su (x * 12 + al) = 1000000) (hru : ∀ x, x < 14 → ru (x * 12 + al) = 0) (hgd : ∀ d k, 1 ≤ d → d < 4 → k < 14 → bitB (ga d) k = true → bitB (di k) 0 = true) : zX l G yX4_sumUpAlley cX4_sumUpAlley 8 none 3 71 0 0 [.ref (a 0), .ref (b 0), .int (nI al)] (tot G a D di ga su ru n ++ plan G b P) (zF none (tot G a D di ga (colI su al (tS D di ga (alC g al 0) (alC g al 1) (alC g al 2)) 14) (colI ru al (tR D di ga (alC g al 0) (alC g al 1) (alC g al 2)) 14) n ++ plan G b P)) := by
  refine zj_startF RX4 (by decide +kernel) rfl rfl rfl (bs := [[((a 0), .inr (4, [.ref (a 1), .ref (a 3), .ref (a 5), .ref (a 7), .ref (a 9), .int (nI n)]))], ways G (a 1) (a 2) D, tbl G (a 3) (a 4) 14 (nI 1) (nF di) 0, tbl G (a 5) (a 6) 4 (nI 1) (nF ga) 0, tbl G (a 7) (a 8) 168 (nI 12) (nF su) 0, tbl G (a 9) (a 10) 168 (nI 12) (nF ru) 0, plan G b P]) rfl (lo := [some (.ref (a 0)), some (.ref (b 0)), some (.int (nI al)), none, none, none, none, none]) rfl ?_
  intro p0 e0 s0 m0 args0 below0 meth0 c0 A0 C hr hlocks
  have hk := hv.2.1
  have hal12 : al < 12 := by omega
  obtain ⟨v0, v1, v2⟩ := hv.2.2.2.2 al hal
  refine zj_aload_n (pc := 0) C dX4_sumUpAlley_0 rfl ?_
  refine zj_iload_n (pc := 1) C dX4_sumUpAlley_1 rfl ?_
  refine zj_iconst (pc := 2) (v := 0) C dX4_sumUpAlley_2 (by decide) ?_
  refine zj_callP1 (pc := 3) C kv_X4_103 (m_X1_alleyCell hP hv hal (c := 0) (by decide)) dX4_sumUpAlley_3 6 rfl rfl rfl rfl rfl rfl rfl ⟨0, rfl⟩ rfl rfl ?_
  refine zj_istore_n (pc := 6) C dX4_sumUpAlley_6 (Nat.le_of_ble_eq_true rfl) ?_
  refine zj_aload_n (pc := 7) C dX4_sumUpAlley_7 rfl ?_
  refine zj_iload_n (pc := 8) C dX4_sumUpAlley_8 rfl ?_
  refine zj_iconst (pc := 9) (v := 2) C dX4_sumUpAlley_9 (by decide) ?_
  refine zj_callP1 (pc := 10) C kv_X4_103 (m_X1_alleyCell hP hv hal (c := 2) (by decide)) dX4_sumUpAlley_10 6 rfl rfl rfl rfl rfl rfl rfl ⟨0, rfl⟩ rfl rfl ?_
  refine zj_istore (pc := 13) C dX4_sumUpAlley_13 (Nat.le_of_ble_eq_true rfl) ?_
  refine zj_aload_n (pc := 15) C dX4_sumUpAlley_15 rfl ?_
  refine zj_iload_n (pc := 16) C dX4_sumUpAlley_16 rfl ?_
  refine zj_iconst (pc := 17) (v := 1) C dX4_sumUpAlley_17 (by decide) ?_
  refine zj_callP1 (pc := 18) C kv_X4_103 (m_X1_alleyCell hP hv hal (c := 1) (by decide)) dX4_sumUpAlley_18 6 rfl rfl rfl rfl rfl rfl rfl ⟨0, rfl⟩ rfl rfl ?_
  refine zj_istore (pc := 21) C dX4_sumUpAlley_21 (Nat.le_of_ble_eq_true rfl) ?_
  refine zj_aload_n (pc := 23) C dX4_sumUpAlley_23 rfl ?_
  refine zj_iload (pc := 24) C dX4_sumUpAlley_24 rfl ?_
  refine zj_iload_n (pc := 26) C dX4_sumUpAlley_26 rfl ?_
  refine zj_callPA (pc := 27) C kv_X4_93 (m_X4_isIn v2 v0 (hT.2.1 _ v0)) dX4_sumUpAlley_27 [0, 1, 2, 3, 4, 5] [6] rfl rfl rfl rfl rfl rfl rfl rfl ⟨0, rfl⟩ rfl rfl ?_
  refine zj_ifb_ne (pc := 30) 34 C dX4_sumUpAlley_30 (by decide) (fun c_30 => ?_) (fun c_30 => ?_)
  · refine zj_iconst (pc := 34) (v := 0) C dX4_sumUpAlley_34 (by decide) ?_
    refine zj_istore (pc := 35) C dX4_sumUpAlley_35 (Nat.le_of_ble_eq_true rfl) ?_
    refine zj_keep [true, true, true, true, true, true, true, false] ?_
    refine zj_blk (bs' := [[((a 0), .inr (4, [.ref (a 1), .ref (a 3), .ref (a 5), .ref (a 7), .ref (a 9), .int (nI n)]))], ways G (a 1) (a 2) D, tbl G (a 3) (a 4) 14 (nI 1) (nF di) 0, tbl G (a 5) (a 6) 4 (nI 1) (nF ga) 0, tbl G (a 7) (a 8) 168 (nI 12) (nF (colI su al (npS D di ga (alC g al 0) (alC g al 1) (alC g al 2)) (0))) 0, tbl G (a 9) (a 10) 168 (nI 12) (nF (colI ru al (npR D di ga (alC g al 0) (alC g al 1) (alC g al 2)) (0))) 0, plan G b P]) (by rw [colI_0, colI_0]) ?_
    refine zj_loopW (σ := Nat) (fun x => x ≤ 14) (fun x => 14 - x) (fun x => [[((a 0), .inr (4, [.ref (a 1), .ref (a 3), .ref (a 5), .ref (a 7), .ref (a 9), .int (nI n)]))], ways G (a 1) (a 2) D, tbl G (a 3) (a 4) 14 (nI 1) (nF di) 0, tbl G (a 5) (a 6) 4 (nI 1) (nF ga) 0, tbl G (a 7) (a 8) 168 (nI 12) (nF (colI su al (npS D di ga (alC g al 0) (alC g al 1) (alC g al 2)) (x))) 0, tbl G (a 9) (a 10) 168 (nI 12) (nF (colI ru al (npR D di ga (alC g al 0) (alC g al 1) (alC g al 2)) (x))) 0, plan G b P]) (fun x => [some (.ref (a 0)), some (.ref (b 0)), some (.int (nI al)), some (.int (nI (alC g al 0))), some (.int (nI (alC g al 2))), some (.int (nI (alC g al 1))), some (.int (nI (x))), none]) ?_ 0 (Nat.zero_le _)
    intro i hi ih
    have hTi := TBd_col (F := (npS D di ga (alC g al 0) (alC g al 1) (alC g al 2))) (R := (npR D di ga (alC g al 0) (alC g al 1) (alC g al 2))) (al := al) (i := i) hT (npS_le _ _ _ _ _ _) (npR_le _ _ _ _ _ _)
    refine zj_iload (pc := 37) C dX4_sumUpAlley_37 rfl ?_
    refine zj_bipush (pc := 39) (v := 14) C dX4_sumUpAlley_39 (by decide) ?_
    refine zj_icmp_ge (pc := 41) 117 C dX4_sumUpAlley_41 (by decide) (fun c_41 => ?_) (fun c_41 => ?_)
    · refine zj_iconst (pc := 117) (v := 0) C dX4_sumUpAlley_117 (by decide) ?_
      refine zj_istore (pc := 118) C dX4_sumUpAlley_118 (Nat.le_of_ble_eq_true rfl) ?_
      refine zj_keep [true, true, true, true, true, true, true, false] ?_
      refine zj_blk (bs' := [[((a 0), .inr (4, [.ref (a 1), .ref (a 3), .ref (a 5), .ref (a 7), .ref (a 9), .int (nI n)]))], ways G (a 1) (a 2) D, tbl G (a 3) (a 4) 14 (nI 1) (nF di) 0, tbl G (a 5) (a 6) 4 (nI 1) (nF ga) 0, tbl G (a 7) (a 8) 168 (nI 12) (nF (colI (colI su al (npS D di ga (alC g al 0) (alC g al 1) (alC g al 2)) 14) al (fpS D di ga (alC g al 0) (alC g al 1) (alC g al 2)) (0))) 0, tbl G (a 9) (a 10) 168 (nI 12) (nF (colI (colI ru al (npR D di ga (alC g al 0) (alC g al 1) (alC g al 2)) 14) al (fpR D di ga (alC g al 0) (alC g al 1) (alC g al 2)) (0))) 0, plan G b P]) (by rw [colI_0, colI_0, show i = 14 from Nat.le_antisymm hi (zle c_41 (by omega))]) ?_
      refine zj_loopW (σ := Nat) (fun x => x ≤ 14) (fun x => 14 - x) (fun x => [[((a 0), .inr (4, [.ref (a 1), .ref (a 3), .ref (a 5), .ref (a 7), .ref (a 9), .int (nI n)]))], ways G (a 1) (a 2) D, tbl G (a 3) (a 4) 14 (nI 1) (nF di) 0, tbl G (a 5) (a 6) 4 (nI 1) (nF ga) 0, tbl G (a 7) (a 8) 168 (nI 12) (nF (colI (colI su al (npS D di ga (alC g al 0) (alC g al 1) (alC g al 2)) 14) al (fpS D di ga (alC g al 0) (alC g al 1) (alC g al 2)) (x))) 0, tbl G (a 9) (a 10) 168 (nI 12) (nF (colI (colI ru al (npR D di ga (alC g al 0) (alC g al 1) (alC g al 2)) 14) al (fpR D di ga (alC g al 0) (alC g al 1) (alC g al 2)) (x))) 0, plan G b P]) (fun x => [some (.ref (a 0)), some (.ref (b 0)), some (.int (nI al)), some (.int (nI (alC g al 0))), some (.int (nI (alC g al 2))), some (.int (nI (alC g al 1))), some (.int (nI (x))), none]) ?_ 0 (Nat.zero_le _)
      intro j hj ihj
      have hTj := TBd_col (F := (fpS D di ga (alC g al 0) (alC g al 1) (alC g al 2))) (R := (fpR D di ga (alC g al 0) (alC g al 1) (alC g al 2))) (al := al) (i := j) (TBd_col (F := (npS D di ga (alC g al 0) (alC g al 1) (alC g al 2))) (R := (npR D di ga (alC g al 0) (alC g al 1) (alC g al 2))) (al := al) (i := 14) hT (npS_le _ _ _ _ _ _) (npR_le _ _ _ _ _ _)) (fpS_le _ _ _ _ _ _) (fpR_le _ _ _ _ _ _)
      refine zj_iload (pc := 120) C dX4_sumUpAlley_120 rfl ?_
      refine zj_bipush (pc := 122) (v := 14) C dX4_sumUpAlley_122 (by decide) ?_
      refine zj_icmp_ge (pc := 124) 168 C dX4_sumUpAlley_124 (by decide) (fun c_124 => ?_) (fun c_124 => ?_)
      · refine zj_vretF C hr hlocks dX4_sumUpAlley_168 ?_
        rw [show j = 14 from Nat.le_antisymm hj (zle c_124 (by omega)), colI_2, colI_2, colI_F (F := (fpS D di ga (alC g al 0) (alC g al 1) (alC g al 2))) (F2 := (tS D di ga (alC g al 0) (alC g al 1) (alC g al 2))) (fun x => by rw [tS, c_30]; rfl), colI_F (F := (fpR D di ga (alC g al 0) (alC g al 1) (alC g al 2))) (F2 := (tR D di ga (alC g al 0) (alC g al 1) (alC g al 2))) (fun x => by rw [tR, c_30]; rfl)]
        exact rfl
      · have hjlt : j < 14 := zlt c_124 (by omega)
        refine zj_aload_n (pc := 127) C dX4_sumUpAlley_127 rfl ?_
        refine zj_iconst (pc := 128) (v := 0) C dX4_sumUpAlley_128 (by decide) ?_
        refine zj_iload (pc := 129) C dX4_sumUpAlley_129 rfl ?_
        refine zj_callPA (pc := 131) C kv_X4_93 (m_X4_isIn (d := 0) (by decide) hjlt (hT.2.1 j hjlt)) dX4_sumUpAlley_131 [0, 1, 2, 3, 4, 5] [6] rfl rfl rfl rfl rfl rfl rfl rfl ⟨0, rfl⟩ rfl rfl ?_
        refine zj_ifb_ne (pc := 134) 162 C dX4_sumUpAlley_134 (by decide) (fun c_134 => ?_) (fun c_134 => ?_)
        · refine zj_iinc (pc := 162) (v := nI (j + 1)) C dX4_sumUpAlley_162 rfl (nI_1 _) ?_
          refine zj_goto (pc := 165) (tgt := 120) C dX4_sumUpAlley_165 (by decide) ?_
          refine zj_keep [true, true, true, true, true, true, true, false] ?_
          refine zj_blk (bs' := [[((a 0), .inr (4, [.ref (a 1), .ref (a 3), .ref (a 5), .ref (a 7), .ref (a 9), .int (nI n)]))], ways G (a 1) (a 2) D, tbl G (a 3) (a 4) 14 (nI 1) (nF di) 0, tbl G (a 5) (a 6) 4 (nI 1) (nF ga) 0, tbl G (a 7) (a 8) 168 (nI 12) (nF (colI (colI su al (npS D di ga (alC g al 0) (alC g al 1) (alC g al 2)) 14) al (fpS D di ga (alC g al 0) (alC g al 1) (alC g al 2)) (j + 1))) 0, tbl G (a 9) (a 10) 168 (nI 12) (nF (colI (colI ru al (npR D di ga (alC g al 0) (alC g al 1) (alC g al 2)) 14) al (fpR D di ga (alC g al 0) (alC g al 1) (alC g al 2)) (j + 1))) 0, plan G b P]) (by rw [← colI_n (F := (fpS D di ga (alC g al 0) (alC g al 1) (alC g al 2))) hal12 (by rw [colI_at hal12, if_pos hjlt, fpS, if_neg (by rw [c_134]; simp)]), ← colI_n (F := (fpR D di ga (alC g al 0) (alC g al 1) (alC g al 2))) hal12 (by rw [colI_at hal12, if_pos hjlt, fpR, if_neg (by rw [c_134]; simp)])]) ?_
          exact ihj (j + 1) hjlt (by omega)
        · refine zj_aload_n (pc := 137) C dX4_sumUpAlley_137 rfl ?_
          refine zj_iload (pc := 138) C dX4_sumUpAlley_138 rfl ?_
          refine zj_iload_n (pc := 140) C dX4_sumUpAlley_140 rfl ?_
          refine zj_callPA (pc := 141) C kv_X4_112 (m_X4_hasTotal hjlt hal12 (hTj.2.2.2.2 _ (by omega))) dX4_sumUpAlley_141 [0, 1, 2, 3, 4, 5] [6] rfl rfl rfl rfl rfl rfl rfl rfl ⟨0, rfl⟩ rfl rfl ?_
          have hrj : (colI (colI ru al (npR D di ga (alC g al 0) (alC g al 1) (alC g al 2)) 14) al (fpR D di ga (alC g al 0) (alC g al 1) (alC g al 2)) (j)) (j * 12 + al) = (npR D di ga (alC g al 0) (alC g al 1) (alC g al 2)) j := by rw [colI_at hal12, if_neg (Nat.lt_irrefl _), colI_at hal12, if_pos hjlt]
          refine zj_ifb_ne (pc := 144) 162 C dX4_sumUpAlley_144 (by decide) (fun c_144 => ?_) (fun c_144 => ?_)
          · refine zj_iinc (pc := 162) (v := nI (j + 1)) C dX4_sumUpAlley_162 rfl (nI_1 _) ?_
            refine zj_goto (pc := 165) (tgt := 120) C dX4_sumUpAlley_165 (by decide) ?_
            refine zj_keep [true, true, true, true, true, true, true, false] ?_
            refine zj_blk (bs' := [[((a 0), .inr (4, [.ref (a 1), .ref (a 3), .ref (a 5), .ref (a 7), .ref (a 9), .int (nI n)]))], ways G (a 1) (a 2) D, tbl G (a 3) (a 4) 14 (nI 1) (nF di) 0, tbl G (a 5) (a 6) 4 (nI 1) (nF ga) 0, tbl G (a 7) (a 8) 168 (nI 12) (nF (colI (colI su al (npS D di ga (alC g al 0) (alC g al 1) (alC g al 2)) 14) al (fpS D di ga (alC g al 0) (alC g al 1) (alC g al 2)) (j + 1))) 0, tbl G (a 9) (a 10) 168 (nI 12) (nF (colI (colI ru al (npR D di ga (alC g al 0) (alC g al 1) (alC g al 2)) 14) al (fpR D di ga (alC g al 0) (alC g al 1) (alC g al 2)) (j + 1))) 0, plan G b P]) (by rw [← colI_n (F := (fpS D di ga (alC g al 0) (alC g al 1) (alC g al 2))) hal12 (by rw [colI_at hal12, if_pos hjlt, fpS, if_neg (by rw [hrj] at c_144; simpa using fun _ => c_144)]), ← colI_n (F := (fpR D di ga (alC g al 0) (alC g al 1) (alC g al 2))) hal12 (by rw [colI_at hal12, if_pos hjlt, fpR, if_neg (by rw [hrj] at c_144; simpa using fun _ => c_144)])]) ?_
            exact ihj (j + 1) hjlt (by omega)
          · refine zj_aload_n (pc := 147) C dX4_sumUpAlley_147 rfl ?_
            refine zj_iload (pc := 148) C dX4_sumUpAlley_148 rfl ?_
            refine zj_iload_n (pc := 150) C dX4_sumUpAlley_150 rfl ?_
            refine zj_aload_n (pc := 151) C dX4_sumUpAlley_151 rfl ?_
            refine zj_iload (pc := 152) C dX4_sumUpAlley_152 rfl ?_
            refine zj_iload_n (pc := 154) C dX4_sumUpAlley_154 rfl ?_
            refine zj_callPA (pc := 155) C kv_X4_115 (m_X4_leastByGates hTj hjlt hal12) dX4_sumUpAlley_155 [0, 1, 2, 3, 4, 5] [6] rfl rfl rfl rfl rfl rfl rfl rfl ⟨0, rfl⟩ rfl rfl ?_
            refine zj_top (x' := nI (lBN D di ga (npS D di ga (alC g al 0) (alC g al 1) (alC g al 2)) j 3)) (by rw [lBG_N (N := (npS D di ga (alC g al 0) (alC g al 1) (alC g al 2))) (Nat.le_refl 3) (fun e k h1 h2 h3 h4 => by rw [colI_at hal12, colI_at hal12, if_pos h3, show (fpS D di ga (alC g al 0) (alC g al 1) (alC g al 2)) k = (npS D di ga (alC g al 0) (alC g al 1) (alC g al 2)) k by rw [fpS, if_neg (by rw [hgd e k h1 h2 h3 h4]; simp)]]; split <;> rfl)]) ?_
            have hlb : lBN D di ga (npS D di ga (alC g al 0) (alC g al 1) (alC g al 2)) j 3 ≤ 1000000 := by
              rw [← lBG_N (su := fun k => (npS D di ga (alC g al 0) (alC g al 1) (alC g al 2)) (k / 12)) (al := 0) (Nat.le_refl 3) (fun e k _ _ _ _ => by show (npS D di ga (alC g al 0) (alC g al 1) (alC g al 2)) ((k * 12 + 0) / 12) = _; rw [show (k * 12 + 0) / 12 = k by omega])]
              exact lBG_le _ _ _ _ _ _ _
            refine zj_iconst (pc := 158) (v := 3) C dX4_sumUpAlley_158 (by decide) ?_
            refine zj_callA (pc := 159) C kv_X4_106 (m_X4_setTotal (rl := 3) hjlt hal12 (by omega)) dX4_sumUpAlley_159 [0, 1, 2, 3, 4, 5] [6] rfl rfl rfl rfl rfl rfl rfl rfl ⟨0, rfl⟩ rfl rfl (fun v w1 hq => ?_)
            obtain ⟨rfl, rfl⟩ := hq
            have hcond : bitB (di j) 0 = false ∧ (npR D di ga (alC g al 0) (alC g al 1) (alC g al 2)) j = 0 := ⟨c_134, by rw [hrj] at c_144; simpa using c_144⟩
            have hnS : (npS D di ga (alC g al 0) (alC g al 1) (alC g al 2)) j = 1000000 := by
              have h2 := hcond.2
              unfold npR at h2
              unfold npS
              split
              · rename_i h3
                rw [if_pos h3] at h2
                unfold stR at h2
                unfold stS
                split
                · rename_i h4
                  rw [if_pos h4] at h2
                  cases h2
                · rfl
              · rw [hcond.1]
                rfl
            refine zj_blk (bs' := [[((a 0), .inr (4, [.ref (a 1), .ref (a 3), .ref (a 5), .ref (a 7), .ref (a 9), .int (nI n)]))], ways G (a 1) (a 2) D, tbl G (a 3) (a 4) 14 (nI 1) (nF di) 0, tbl G (a 5) (a 6) 4 (nI 1) (nF ga) 0, tbl G (a 7) (a 8) 168 (nI 12) (nF (colI (colI su al (npS D di ga (alC g al 0) (alC g al 1) (alC g al 2)) 14) al (fpS D di ga (alC g al 0) (alC g al 1) (alC g al 2)) (j + 1))) 0, tbl G (a 9) (a 10) 168 (nI 12) (nF (colI (colI ru al (npR D di ga (alC g al 0) (alC g al 1) (alC g al 2)) 14) al (fpR D di ga (alC g al 0) (alC g al 1) (alC g al 2)) (j + 1))) 0, plan G b P]) (by rw [← st_col (F := (fpS D di ga (alC g al 0) (alC g al 1) (alC g al 2))) hal12 (by rw [colI_at hal12, if_pos hjlt, hnS]) (by rw [fpS, if_pos hcond]), ← st_colR (R := (fpR D di ga (alC g al 0) (alC g al 1) (alC g al 2))) hal12 (by rw [colI_at hal12, if_pos hjlt, hcond.2]) (by rw [fpR, if_pos hcond])]; rfl) ?_
            refine zj_iinc (pc := 162) (v := nI (j + 1)) C dX4_sumUpAlley_162 rfl (nI_1 _) ?_
            refine zj_goto (pc := 165) (tgt := 120) C dX4_sumUpAlley_165 (by decide) ?_
            refine zj_keep [true, true, true, true, true, true, true, false] ?_
            exact ihj (j + 1) hjlt (by omega)
    · have hlt : i < 14 := zlt c_41 (by omega)
      have w1 := hT.1 (alC g al 2) i (alC g al 0) (by omega) hlt v0
      have w2 := minA_le 1000000 (fun k => bitB (ga (alC g al 2)) k) (fun k => D 0 i k + D (alC g al 2) k (alC g al 0)) 14
      refine zj_aload_n (pc := 44) C dX4_sumUpAlley_44 rfl ?_
      refine gf_X4_0 (pc := 45) C dX4_sumUpAlley_45 0 rfl ?_
      refine zj_iload (pc := 48) C dX4_sumUpAlley_48 rfl ?_
      refine zj_iload (pc := 50) C dX4_sumUpAlley_50 rfl ?_
      refine zj_iload_n (pc := 52) C dX4_sumUpAlley_52 rfl ?_
      refine zj_callP1 (pc := 53) C kv_X4_89 (m_X5_between (by omega) hlt v0) dX4_sumUpAlley_53 1 rfl rfl rfl rfl rfl rfl rfl ⟨0, rfl⟩ rfl rfl ?_
      refine zj_istore (pc := 56) C dX4_sumUpAlley_56 (Nat.le_of_ble_eq_true rfl) ?_
      refine zj_iload (pc := 58) C dX4_sumUpAlley_58 rfl ?_
      refine zj_ldc (pc := 60) (v := 1000000) C dX4_sumUpAlley_60 aq_325 ?_
      refine zj_icmp_ge (pc := 62) 81 C dX4_sumUpAlley_62 (by decide) (fun c_62 => ?_) (fun c_62 => ?_)
      · rw [show (1000000 : Int32) = nI 1000000 from rfl, nI_leI (by omega) (by omega)] at c_62
        refine zj_aload_n (pc := 81) C dX4_sumUpAlley_81 rfl ?_
        refine zj_iconst (pc := 82) (v := 0) C dX4_sumUpAlley_82 (by decide) ?_
        refine zj_iload (pc := 83) C dX4_sumUpAlley_83 rfl ?_
        refine zj_callPA (pc := 85) C kv_X4_93 (m_X4_isIn (d := 0) (by decide) hlt (hT.2.1 i hlt)) dX4_sumUpAlley_85 [0, 1, 2, 3, 4, 5] [6] rfl rfl rfl rfl rfl rfl rfl rfl ⟨0, rfl⟩ rfl rfl ?_
        refine zj_ifb_eq (pc := 88) 111 C dX4_sumUpAlley_88 (by decide) (fun c_88 => ?_) (fun c_88 => ?_)
        · refine zj_iinc (pc := 111) (v := nI (i + 1)) C dX4_sumUpAlley_111 rfl (nI_1 _) ?_
          refine zj_goto (pc := 114) (tgt := 37) C dX4_sumUpAlley_114 (by decide) ?_
          refine zj_keep [true, true, true, true, true, true, true, false] ?_
          refine zj_blk (bs' := [[((a 0), .inr (4, [.ref (a 1), .ref (a 3), .ref (a 5), .ref (a 7), .ref (a 9), .int (nI n)]))], ways G (a 1) (a 2) D, tbl G (a 3) (a 4) 14 (nI 1) (nF di) 0, tbl G (a 5) (a 6) 4 (nI 1) (nF ga) 0, tbl G (a 7) (a 8) 168 (nI 12) (nF (colI su al (npS D di ga (alC g al 0) (alC g al 1) (alC g al 2)) (i + 1))) 0, tbl G (a 9) (a 10) 168 (nI 12) (nF (colI ru al (npR D di ga (alC g al 0) (alC g al 1) (alC g al 2)) (i + 1))) 0, plan G b P]) (by rw [← colI_n (F := (npS D di ga (alC g al 0) (alC g al 1) (alC g al 2))) hal12 (by rw [hsu i hlt, npS, if_neg (by omega), c_88]; rfl), ← colI_n (F := (npR D di ga (alC g al 0) (alC g al 1) (alC g al 2))) hal12 (by rw [hru i hlt, npR, if_neg (by omega), c_88]; rfl)]) ?_
          exact ih (i + 1) hlt (by omega)
        · have hlo : lOB D ga i (alC g al 2) (alC g al 0) ≤ 1000000 := w2
          refine zj_aload_n (pc := 91) C dX4_sumUpAlley_91 rfl ?_
          refine zj_iload (pc := 92) C dX4_sumUpAlley_92 rfl ?_
          refine zj_iload_n (pc := 94) C dX4_sumUpAlley_94 rfl ?_
          refine zj_aload_n (pc := 95) C dX4_sumUpAlley_95 rfl ?_
          refine zj_iload (pc := 96) C dX4_sumUpAlley_96 rfl ?_
          refine zj_iload (pc := 98) C dX4_sumUpAlley_98 rfl ?_
          refine zj_iload_n (pc := 100) C dX4_sumUpAlley_100 rfl ?_
          refine zj_callPA (pc := 101) C kv_X4_109 (m_X4_leastOverBackbone hTi hlt v2 v0) dX4_sumUpAlley_101 [0, 1, 2, 3, 4, 5] [6] rfl rfl rfl rfl rfl rfl rfl rfl ⟨0, rfl⟩ rfl rfl ?_
          refine zj_iload (pc := 104) C dX4_sumUpAlley_104 rfl ?_
          refine zj_iadd (pc := 106) C dX4_sumUpAlley_106 ?_
          refine zj_top (x' := nI (lOB D ga i (alC g al 2) (alC g al 0) + alC g al 1)) (nI_add _ _) ?_
          refine zj_iconst (pc := 107) (v := 2) C dX4_sumUpAlley_107 (by decide) ?_
          refine zj_callA (pc := 108) C kv_X4_106 (m_X4_setTotal (rl := 2) hlt hal12 (by omega)) dX4_sumUpAlley_108 [0, 1, 2, 3, 4, 5] [6] rfl rfl rfl rfl rfl rfl rfl rfl ⟨0, rfl⟩ rfl rfl (fun v w1 hq => ?_)
          obtain ⟨rfl, rfl⟩ := hq
          refine zj_blk (bs' := [[((a 0), .inr (4, [.ref (a 1), .ref (a 3), .ref (a 5), .ref (a 7), .ref (a 9), .int (nI n)]))], ways G (a 1) (a 2) D, tbl G (a 3) (a 4) 14 (nI 1) (nF di) 0, tbl G (a 5) (a 6) 4 (nI 1) (nF ga) 0, tbl G (a 7) (a 8) 168 (nI 12) (nF (colI su al (npS D di ga (alC g al 0) (alC g al 1) (alC g al 2)) (i + 1))) 0, tbl G (a 9) (a 10) 168 (nI 12) (nF (colI ru al (npR D di ga (alC g al 0) (alC g al 1) (alC g al 2)) (i + 1))) 0, plan G b P]) (by rw [← st_col hal12 (hsu i hlt) (by rw [npS, if_neg (by omega), c_88]; rfl), ← st_colR hal12 (hru i hlt) (by rw [npR, if_neg (by omega), c_88]; rfl)]; rfl) ?_
          refine zj_iinc (pc := 111) (v := nI (i + 1)) C dX4_sumUpAlley_111 rfl (nI_1 _) ?_
          refine zj_goto (pc := 114) (tgt := 37) C dX4_sumUpAlley_114 (by decide) ?_
          refine zj_keep [true, true, true, true, true, true, true, false] ?_
          exact ih (i + 1) hlt (by omega)
      · rw [show (1000000 : Int32) = nI 1000000 from rfl, nI_leI (by omega) (by omega)] at c_62
        refine zj_aload_n (pc := 65) C dX4_sumUpAlley_65 rfl ?_
        refine zj_iload (pc := 66) C dX4_sumUpAlley_66 rfl ?_
        refine zj_iload_n (pc := 68) C dX4_sumUpAlley_68 rfl ?_
        refine zj_iload (pc := 69) C dX4_sumUpAlley_69 rfl ?_
        refine zj_iload (pc := 71) C dX4_sumUpAlley_71 rfl ?_
        refine zj_iadd (pc := 73) C dX4_sumUpAlley_73 ?_
        refine zj_top (x' := nI (D (alC g al 2) i (alC g al 0) + alC g al 1)) (nI_add _ _) ?_
        refine zj_iconst (pc := 74) (v := 1) C dX4_sumUpAlley_74 (by decide) ?_
        refine zj_callA (pc := 75) C kv_X4_106 (m_X4_setTotal (rl := 1) hlt hal12 (by omega)) dX4_sumUpAlley_75 [0, 1, 2, 3, 4, 5] [6] rfl rfl rfl rfl rfl rfl rfl rfl ⟨0, rfl⟩ rfl rfl (fun v w1 hq => ?_)
        obtain ⟨rfl, rfl⟩ := hq
        refine zj_blk (bs' := [[((a 0), .inr (4, [.ref (a 1), .ref (a 3), .ref (a 5), .ref (a 7), .ref (a 9), .int (nI n)]))], ways G (a 1) (a 2) D, tbl G (a 3) (a 4) 14 (nI 1) (nF di) 0, tbl G (a 5) (a 6) 4 (nI 1) (nF ga) 0, tbl G (a 7) (a 8) 168 (nI 12) (nF (colI su al (npS D di ga (alC g al 0) (alC g al 1) (alC g al 2)) (i + 1))) 0, tbl G (a 9) (a 10) 168 (nI 12) (nF (colI ru al (npR D di ga (alC g al 0) (alC g al 1) (alC g al 2)) (i + 1))) 0, plan G b P]) (by rw [← st_col hal12 (hsu i hlt) (by rw [npS, if_pos (by omega)]), ← st_colR hal12 (hru i hlt) (by rw [npR, if_pos (by omega)])]; rfl) ?_
        refine zj_goto (pc := 78) (tgt := 111) C dX4_sumUpAlley_78 (by decide) ?_
        refine zj_iinc (pc := 111) (v := nI (i + 1)) C dX4_sumUpAlley_111 rfl (nI_1 _) ?_
        refine zj_goto (pc := 114) (tgt := 37) C dX4_sumUpAlley_114 (by decide) ?_
        refine zj_keep [true, true, true, true, true, true, true, false] ?_
        exact ih (i + 1) hlt (by omega)
  · refine zj_vretF C hr hlocks dX4_sumUpAlley_33 ?_
    rw [colI_c (fun x hx => by rw [hsu x hx, tS, c_30]; rfl), colI_c (fun x hx => by rw [hru x hx, tR, c_30]; rfl)]
    exact rfl
