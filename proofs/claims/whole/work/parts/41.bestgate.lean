/-- the best of the joins tried so far -/
def bgJ (g : Nat → Nat) (W : TC) (d x : Nat) (r : Nat × Option (Nat × Nat)) : Nat → Nat × Option (Nat × Nat)
  | 0 => r
  | j + 1 => if cjB g W x j d then (if (bgJ g W d x r j).1 < cF (kA g) 3 W.2.2.2.1 (tSg g (jD W.1 d x j 1)) then (cF (kA g) 3 W.2.2.2.1 (tSg g (jD W.1 d x j 1)), some (x, j)) else bgJ g W d x r j) else bgJ g W d x r j
def bgI (g : Nat → Nat) (W : TC) (d : Nat) : Nat → Nat × Option (Nat × Nat)
  | 0 => (0, none)
  | i + 1 => bgJ g W d i (bgI g W d i) 14
theorem bgJ_f {g : Nat → Nat} {W : TC} {d x j : Nat} {r : Nat × Option (Nat × Nat)} (h : cjB g W x j d = false) : bgJ g W d x r (j + 1) = bgJ g W d x r j := by
  show (if cjB g W x j d then _ else _) = _
  rw [h]; rfl
theorem bgJ_t {g : Nat → Nat} {W : TC} {d x j : Nat} {r : Nat × Option (Nat × Nat)} (h : cjB g W x j d = true) (h2 : (bgJ g W d x r j).1 < cF (kA g) 3 W.2.2.2.1 (tSg g (jD W.1 d x j 1))) : bgJ g W d x r (j + 1) = (cF (kA g) 3 W.2.2.2.1 (tSg g (jD W.1 d x j 1)), some (x, j)) := by
  show (if cjB g W x j d then _ else _) = _
  rw [if_pos h, if_pos h2]
theorem bgJ_n {g : Nat → Nat} {W : TC} {d x j : Nat} {r : Nat × Option (Nat × Nat)} (h2 : ¬ (bgJ g W d x r j).1 < cF (kA g) 3 W.2.2.2.1 (tSg g (jD W.1 d x j 1))) : bgJ g W d x r (j + 1) = bgJ g W d x r j := by
  show (if cjB g W x j d then _ else _) = _
  rw [if_neg h2]
  split <;> rfl
theorem bgJ_le {g : Nat → Nat} (hk : kA g ≤ 12) {W : TC} {d x : Nat} {r : Nat × Option (Nat × Nat)} (hr : r.1 ≤ 168) : ∀ j, (bgJ g W d x r j).1 ≤ 168
  | 0 => hr
  | j + 1 => by
    have ih := bgJ_le hk (W := W) (d := d) (x := x) hr j
    unfold bgJ
    split
    · split
      · exact cF_le hk
      · exact ih
    · exact ih
theorem bgI_le {g : Nat → Nat} (hk : kA g ≤ 12) {W : TC} {d : Nat} : ∀ i, (bgI g W d i).1 ≤ 168
  | 0 => Nat.zero_le _
  | i + 1 => bgJ_le hk (bgI_le hk i) 14
def aBG (g : Nat → Nat) (W : TC) (d w : Int32) : Int32 := if isDi d && !(decide (d = 0)) then (if w < 0 ∨ 2 < w then -2 else if (bgI g W d.toNatClampNeg 14).1 = 0 then -5 else if w = 0 then optI ((bgI g W d.toNatClampNeg 14).2.map Prod.fst) else if w = 1 then optI ((bgI g W d.toNatClampNeg 14).2.map Prod.snd) else nI (bgI g W d.toNatClampNeg 14).1) else -1

set_option maxRecDepth 100000 in
set_option maxHeartbeats 4000000 in
theorem m_X6_bestGate {l : Launch} {G : GG} {ad : Nat → Nat → Nat} {q : Nat → Nat → Nat} {P Pd Ps : PC} {kp : Bool} {HP : Nat → PC} {hn : Nat} {t : Nat → Nat} {tn : Nat} {T : T7} {W1 W2 : TC} {st : Bool} {g : Nat → Nat} {d w : Int32} (hP : PR g P) (hv : Vg g) (hW1 : TBT W1) (hW2 : TBT W2) (hM : ∀ d, d < 5 → MD ((wK g st W1).1 d)) : zX l G yX6_bestGate cX6_bestGate 9 (some .int) 7 163 0 0 [.ref (ad 0 0), .int d, .int w] (cls G ad q P Pd Ps kp HP hn t tn T W1 W2 st) (zE (some (.int (aBG g (wK g st W1) d w))) (fun W9 => if (isDi d && !(decide (d = 0))) && (!(decide (w < 0)) && !(decide (2 < w))) then cls G ad q P Pd Ps kp HP hn t tn T (wK g st W1) W9 false else cls G ad q P Pd Ps kp HP hn t tn T W1 W9 st)) := by
  refine zj_startF RX6 (by decide +kernel) rfl rfl rfl (bs := [[((ad 0 0), .inr (6, [.ref (ad 1 0), .ref (ad 2 0), .ref (ad 3 0), .int (bI kp), .ref (ad 4 0), .ref (ad 5 0), .ref (ad 6 0), .ref (ad 7 0), .int (bI st)]))], plan G (ad 1) P, plan G (ad 2) Pd, plan G (ad 3) Ps, hist G (ad 4) q HP hn, text G (ad 5 0) (ad 5 1) t tn T, totT G (ad 6) W1, totT G (ad 7) W2]) rfl (lo := [some (.ref (ad 0 0)), some (.int d), some (.int w), none, none, none, none, none, none]) rfl ?_
  intro p0 e0 s0 m0 args0 below0 meth0 c0 A0 C hr hlocks
  have hk2 := hv.2.1
  refine zj_iload_n (pc := 0) C dX6_bestGate_0 rfl ?_
  refine zj_callSF (pc := 1) C kv_X6_57 (m_X6_isDistrict) dX6_bestGate_1 rfl rfl rfl rfl rfl rfl ?_
  refine zj_ifb_eq (pc := 4) 11 C dX6_bestGate_4 (by decide) (fun c_4 => ?_) (fun c_4 => ?_)
  · refine zj_iconst (pc := 11) (v := (-1)) C dX6_bestGate_11 (by decide) ?_
    refine zj_iret C hr hlocks dX6_bestGate_12 ?_
    exact ⟨by unfold aBG; rw [if_neg (by simp [c_4])], W2, hW2, by dsimp only; rw [if_neg (by simp [c_4])]; rfl⟩
  · refine zj_iload_n (pc := 7) C dX6_bestGate_7 rfl ?_
    refine zj_if_ne (pc := 8) 13 C dX6_bestGate_8 (by decide) (fun c_8 => ?_) (fun c_8 => ?_)
    · refine zj_iload_n (pc := 13) C dX6_bestGate_13 rfl ?_
      refine zj_if_lt (pc := 14) 22 C dX6_bestGate_14 (by decide) (fun c_14 => ?_) (fun c_14 => ?_)
      · refine zj_bipush (pc := 22) (v := (-2)) C dX6_bestGate_22 (by decide) ?_
        refine zj_iret C hr hlocks dX6_bestGate_24 ?_
        have hw : ¬ (!(decide (w < 0)) && !(decide (2 < w))) = true := by simp [c_14]
        exact ⟨by unfold aBG; rw [if_pos (by simp [c_4, c_8]), if_pos (Or.inl c_14)], W2, hW2, by dsimp only; rw [if_neg (fun h => hw (by simp only [Bool.and_eq_true] at h ⊢; exact h.2))]; rfl⟩
      · refine zj_iload_n (pc := 17) C dX6_bestGate_17 rfl ?_
        refine zj_iconst (pc := 18) (v := 2) C dX6_bestGate_18 (by decide) ?_
        refine zj_icmp_le (pc := 19) 25 C dX6_bestGate_19 (by decide) (fun c_19 => ?_) (fun c_19 => ?_)
        · have h99 : ¬ 2 < w := Int32.not_lt.mpr c_19
          have hor : ¬ (w < 0 ∨ 2 < w) := fun h => h.elim c_14 h99
          obtain ⟨d0, hd0, hxd0⟩ := isDi_n c_4
          have hnd0 : d.toNatClampNeg = d0 := by rw [hxd0]; exact nI_clamp (by have := hv.2.1; omega)
          refine zj_loc (lo' := [some (.ref (ad 0 0)), some (.int (nI d0)), some (.int w), none, none, none, none, none, none]) (by rw [hxd0]) ?_
          refine zj_aload_n (pc := 25) C dX6_bestGate_25 rfl ?_
          refine zj_callA (pc := 26) C kv_X6_156 (m_X6_workOut hP hv hW1) dX6_bestGate_26 [0, 1, 2, 3, 4, 5, 6, 7] [] rfl rfl rfl rfl rfl rfl rfl rfl ⟨0, rfl⟩ rfl rfl (fun v w1 hq => ?_)
          obtain ⟨rfl, rfl⟩ := hq
          refine zj_blk (bs' := [[((ad 0 0), .inr (6, [.ref (ad 1 0), .ref (ad 2 0), .ref (ad 3 0), .int (bI kp), .ref (ad 4 0), .ref (ad 5 0), .ref (ad 6 0), .ref (ad 7 0), .int (bI false)]))], plan G (ad 1) P, plan G (ad 2) Pd, plan G (ad 3) Ps, hist G (ad 4) q HP hn, text G (ad 5 0) (ad 5 1) t tn T, totT G (ad 6) (wK g st W1), totT G (ad 7) W2]) rfl ?_
          have hWK : TBT (wK g st W1) := wK_TBT hv hW1
          refine zj_iconst (pc := 29) (v := 0) C dX6_bestGate_29 (by decide) ?_
          refine zj_istore_n (pc := 30) C dX6_bestGate_30 (Nat.le_of_ble_eq_true rfl) ?_
          refine zj_bipush (pc := 31) (v := (-5)) C dX6_bestGate_31 (by decide) ?_
          refine zj_istore (pc := 33) C dX6_bestGate_33 (Nat.le_of_ble_eq_true rfl) ?_
          refine zj_bipush (pc := 35) (v := (-5)) C dX6_bestGate_35 (by decide) ?_
          refine zj_istore (pc := 37) C dX6_bestGate_37 (Nat.le_of_ble_eq_true rfl) ?_
          refine zj_iconst (pc := 39) (v := 0) C dX6_bestGate_39 (by decide) ?_
          refine zj_istore (pc := 40) C dX6_bestGate_40 (Nat.le_of_ble_eq_true rfl) ?_
          refine zj_keep [true, true, true, true, true, true, true, false, false] ?_
          refine zj_loopW (σ := Nat × TC) (fun x => x.1 ≤ 14 ∧ TBT x.2) (fun x => 14 - x.1) (fun x => [[((ad 0 0), .inr (6, [.ref (ad 1 0), .ref (ad 2 0), .ref (ad 3 0), .int (bI kp), .ref (ad 4 0), .ref (ad 5 0), .ref (ad 6 0), .ref (ad 7 0), .int (bI false)]))], plan G (ad 1) P, plan G (ad 2) Pd, plan G (ad 3) Ps, hist G (ad 4) q HP hn, text G (ad 5 0) (ad 5 1) t tn T, totT G (ad 6) (wK g st W1), totT G (ad 7) x.2]) (fun x => [some (.ref (ad 0 0)), some (.int (nI d0)), some (.int w), some (.int (nI (bgI g (wK g st W1) d0 (x.1)).1)), some (.int (optI ((bgI g (wK g st W1) d0 (x.1)).2.map Prod.fst))), some (.int (optI ((bgI g (wK g st W1) d0 (x.1)).2.map Prod.snd))), some (.int (nI (x.1))), none, none]) ?_ (0, W2) ⟨Nat.zero_le _, hW2⟩
          intro x hx ih
          obtain ⟨i, W9⟩ := x
          obtain ⟨hi, h9⟩ := hx
          simp only at hi h9
          have hri := bgI_le (W := (wK g st W1)) (d := d0) hk2 i
          refine zj_loc (lo' := [some (.ref (ad 0 0)), some (.int (nI d0)), some (.int w), some (.int (nI (bgI g (wK g st W1) d0 (i)).1)), some (.int (optI ((bgI g (wK g st W1) d0 (i)).2.map Prod.fst))), some (.int (optI ((bgI g (wK g st W1) d0 (i)).2.map Prod.snd))), some (.int (nI (i))), none, none]) rfl ?_
          refine zj_blk (bs' := [[((ad 0 0), .inr (6, [.ref (ad 1 0), .ref (ad 2 0), .ref (ad 3 0), .int (bI kp), .ref (ad 4 0), .ref (ad 5 0), .ref (ad 6 0), .ref (ad 7 0), .int (bI false)]))], plan G (ad 1) P, plan G (ad 2) Pd, plan G (ad 3) Ps, hist G (ad 4) q HP hn, text G (ad 5 0) (ad 5 1) t tn T, totT G (ad 6) (wK g st W1), totT G (ad 7) W9]) rfl ?_
          refine zj_iload (pc := 42) C dX6_bestGate_42 rfl ?_
          refine zj_bipush (pc := 44) (v := 14) C dX6_bestGate_44 (by decide) ?_
          refine zj_icmp_ge (pc := 46) 130 C dX6_bestGate_46 (by decide) (fun c_46 => ?_) (fun c_46 => ?_)
          · refine zj_iload_n (pc := 130) C dX6_bestGate_130 rfl ?_
            refine zj_if_ne (pc := 131) 137 C dX6_bestGate_131 (by decide) (fun c_131 => ?_) (fun c_131 => ?_)
            · refine zj_iload_n (pc := 137) C dX6_bestGate_137 rfl ?_
              refine zj_if_ne (pc := 138) 146 C dX6_bestGate_138 (by decide) (fun c_138 => ?_) (fun c_138 => ?_)
              · refine zj_iload_n (pc := 146) C dX6_bestGate_146 rfl ?_
                refine zj_iconst (pc := 147) (v := 1) C dX6_bestGate_147 (by decide) ?_
                refine zj_icmp_ne (pc := 148) 156 C dX6_bestGate_148 (by decide) (fun c_148 => ?_) (fun c_148 => ?_)
                · refine zj_iload_n (pc := 156) C dX6_bestGate_156 rfl ?_
                  refine zj_iret C hr hlocks dX6_bestGate_157 ?_
                  have h14 : i = 14 := Nat.le_antisymm hi (zle c_46 (by omega))
                  subst h14
                  have hz : ¬ (bgI g (wK g st W1) d0 14).1 = 0 := fun h => c_131 ((nI_z (by omega)).mpr h)
                  exact ⟨by unfold aBG; rw [if_pos (by simp [c_4, c_8]), if_neg hor, hnd0, if_neg hz, if_neg c_138, if_neg c_148], _, h9, by dsimp only; rw [if_pos (by simp [c_4, c_8, c_14, h99])]; rfl⟩
                · refine zj_iload (pc := 151) C dX6_bestGate_151 rfl ?_
                  refine zj_goto (pc := 153) (tgt := 157) C dX6_bestGate_153 (by decide) ?_
                  refine zj_iret C hr hlocks dX6_bestGate_157 ?_
                  have h14 : i = 14 := Nat.le_antisymm hi (zle c_46 (by omega))
                  subst h14
                  have hz : ¬ (bgI g (wK g st W1) d0 14).1 = 0 := fun h => c_131 ((nI_z (by omega)).mpr h)
                  exact ⟨by unfold aBG; rw [if_pos (by simp [c_4, c_8]), if_neg hor, hnd0, if_neg hz, if_neg c_138, if_pos c_148], _, h9, by dsimp only; rw [if_pos (by simp [c_4, c_8, c_14, h99])]; rfl⟩
              · refine zj_iload (pc := 141) C dX6_bestGate_141 rfl ?_
                refine zj_goto (pc := 143) (tgt := 157) C dX6_bestGate_143 (by decide) ?_
                refine zj_iret C hr hlocks dX6_bestGate_157 ?_
                have h14 : i = 14 := Nat.le_antisymm hi (zle c_46 (by omega))
                subst h14
                have hz : ¬ (bgI g (wK g st W1) d0 14).1 = 0 := fun h => c_131 ((nI_z (by omega)).mpr h)
                exact ⟨by unfold aBG; rw [if_pos (by simp [c_4, c_8]), if_neg hor, hnd0, if_neg hz, if_pos c_138], _, h9, by dsimp only; rw [if_pos (by simp [c_4, c_8, c_14, h99])]; rfl⟩
            · refine zj_bipush (pc := 134) (v := (-5)) C dX6_bestGate_134 (by decide) ?_
              refine zj_iret C hr hlocks dX6_bestGate_136 ?_
              have h14 : i = 14 := Nat.le_antisymm hi (zle c_46 (by omega))
              subst h14
              have hz : (bgI g (wK g st W1) d0 14).1 = 0 := (nI_z (by omega)).mp c_131
              exact ⟨by unfold aBG; rw [if_pos (by simp [c_4, c_8]), if_neg hor, hnd0, if_pos hz], _, h9, by dsimp only; rw [if_pos (by simp [c_4, c_8, c_14, h99])]; rfl⟩
          · have hil : i < 14 := zlt c_46 (by omega)
            refine zj_iconst (pc := 49) (v := 0) C dX6_bestGate_49 (by decide) ?_
            refine zj_istore (pc := 50) C dX6_bestGate_50 (Nat.le_of_ble_eq_true rfl) ?_
            refine zj_keep [true, true, true, true, true, true, true, true, false] ?_
            refine zj_loopW (σ := Nat × TC) (fun x => x.1 ≤ 14 ∧ TBT x.2) (fun x => 14 - x.1) (fun x => [[((ad 0 0), .inr (6, [.ref (ad 1 0), .ref (ad 2 0), .ref (ad 3 0), .int (bI kp), .ref (ad 4 0), .ref (ad 5 0), .ref (ad 6 0), .ref (ad 7 0), .int (bI false)]))], plan G (ad 1) P, plan G (ad 2) Pd, plan G (ad 3) Ps, hist G (ad 4) q HP hn, text G (ad 5 0) (ad 5 1) t tn T, totT G (ad 6) (wK g st W1), totT G (ad 7) x.2]) (fun x => [some (.ref (ad 0 0)), some (.int (nI d0)), some (.int w), some (.int (nI (bgJ g (wK g st W1) d0 i (bgI g (wK g st W1) d0 i) (x.1)).1)), some (.int (optI ((bgJ g (wK g st W1) d0 i (bgI g (wK g st W1) d0 i) (x.1)).2.map Prod.fst))), some (.int (optI ((bgJ g (wK g st W1) d0 i (bgI g (wK g st W1) d0 i) (x.1)).2.map Prod.snd))), some (.int (nI (i))), some (.int (nI x.1)), none]) ?_ (0, W9) ⟨Nat.zero_le _, h9⟩
            intro x hx ihj
            clear h9
            obtain ⟨j, W9⟩ := x
            obtain ⟨hj, h9⟩ := hx
            simp only at hj h9
            have hrj := bgJ_le (W := (wK g st W1)) (d := d0) (x := i) hk2 hri j
            refine zj_loc (lo' := [some (.ref (ad 0 0)), some (.int (nI d0)), some (.int w), some (.int (nI (bgJ g (wK g st W1) d0 i (bgI g (wK g st W1) d0 i) (j)).1)), some (.int (optI ((bgJ g (wK g st W1) d0 i (bgI g (wK g st W1) d0 i) (j)).2.map Prod.fst))), some (.int (optI ((bgJ g (wK g st W1) d0 i (bgI g (wK g st W1) d0 i) (j)).2.map Prod.snd))), some (.int (nI (i))), some (.int (nI j)), none]) rfl ?_
            refine zj_blk (bs' := [[((ad 0 0), .inr (6, [.ref (ad 1 0), .ref (ad 2 0), .ref (ad 3 0), .int (bI kp), .ref (ad 4 0), .ref (ad 5 0), .ref (ad 6 0), .ref (ad 7 0), .int (bI false)]))], plan G (ad 1) P, plan G (ad 2) Pd, plan G (ad 3) Ps, hist G (ad 4) q HP hn, text G (ad 5 0) (ad 5 1) t tn T, totT G (ad 6) (wK g st W1), totT G (ad 7) W9]) rfl ?_
            refine zj_iload (pc := 52) C dX6_bestGate_52 rfl ?_
            refine zj_bipush (pc := 54) (v := 14) C dX6_bestGate_54 (by decide) ?_
            refine zj_icmp_ge (pc := 56) 124 C dX6_bestGate_56 (by decide) (fun c_56 => ?_) (fun c_56 => ?_)
            · refine zj_iinc (pc := 124) (v := nI (i + 1)) C dX6_bestGate_124 rfl (nI_1 _) ?_
              refine zj_goto (pc := 127) (tgt := 42) C dX6_bestGate_127 (by decide) ?_
              refine zj_keep [true, true, true, true, true, true, true, false, false] ?_
              exact zj_loc (lo' := [some (.ref (ad 0 0)), some (.int (nI d0)), some (.int w), some (.int (nI (bgI g (wK g st W1) d0 (i + 1)).1)), some (.int (optI ((bgI g (wK g st W1) d0 (i + 1)).2.map Prod.fst))), some (.int (optI ((bgI g (wK g st W1) d0 (i + 1)).2.map Prod.snd))), some (.int (nI (i + 1))), none, none]) (by rw [show j = 14 from Nat.le_antisymm hj (zle c_56 (by omega))]; rfl) (ih (i + 1, W9) ⟨hil, h9⟩ (by show 14 - (i + 1) < 14 - i; omega))
            · have hjl : j < 14 := zlt c_56 (by omega)
              refine zj_aload_n (pc := 59) C dX6_bestGate_59 rfl ?_
              refine zj_iload (pc := 60) C dX6_bestGate_60 rfl ?_
              refine zj_iload (pc := 62) C dX6_bestGate_62 rfl ?_
              refine zj_iload_n (pc := 64) C dX6_bestGate_64 rfl ?_
              refine zj_callPA (pc := 65) C kv_X6_228 (m_X6_couldJoin hP hv hWK hil hjl hd0) dX6_bestGate_65 [0, 1, 2, 3, 4, 5, 6, 7] [] rfl rfl rfl rfl rfl rfl rfl rfl ⟨0, rfl⟩ rfl rfl ?_
              refine zj_ifb_ne (pc := 68) 74 C dX6_bestGate_68 (by decide) (fun c_68 => ?_) (fun c_68 => ?_)
              · refine zj_aload_n (pc := 74) C dX6_bestGate_74 rfl ?_
                refine gf_X6_7 (pc := 75) C dX6_bestGate_75 0 rfl ?_
                refine zj_aload_n (pc := 78) C dX6_bestGate_78 rfl ?_
                refine gf_X6_0 (pc := 79) C dX6_bestGate_79 0 rfl ?_
                refine zj_aload_n (pc := 82) C dX6_bestGate_82 rfl ?_
                refine gf_X6_6 (pc := 83) C dX6_bestGate_83 0 rfl ?_
                refine zj_iload (pc := 86) C dX6_bestGate_86 rfl ?_
                refine zj_iload (pc := 88) C dX6_bestGate_88 rfl ?_
                refine zj_iload_n (pc := 90) C dX6_bestGate_90 rfl ?_
                refine zj_callF3n (pc := 91) C kv_X6_232 (m_X4_workOutWithLane h9.1 hP hv hWK.1.1 (hM d0 (by omega)) hil hjl (by omega)) dX6_bestGate_91 7 1 6 rfl rfl rfl rfl rfl rfl rfl rfl rfl rfl ⟨0, rfl⟩ rfl rfl ?_
                refine zj_blk (bs' := [[((ad 0 0), .inr (6, [.ref (ad 1 0), .ref (ad 2 0), .ref (ad 3 0), .int (bI kp), .ref (ad 4 0), .ref (ad 5 0), .ref (ad 6 0), .ref (ad 7 0), .int (bI false)]))], plan G (ad 1) P, plan G (ad 2) Pd, plan G (ad 3) Ps, hist G (ad 4) q HP hn, text G (ad 5 0) (ad 5 1) t tn T, totT G (ad 6) (wK g st W1), totT G (ad 7) (wW g (jD (wK g st W1).1 d0 i j 1) W9)]) rfl ?_
                have hTR : TBT (wW g (jD (wK g st W1).1 d0 i j 1) W9) := wW_TBT hv (jD_WB hWK.1.1) h9
                refine zj_aload_n (pc := 94) C dX6_bestGate_94 rfl ?_
                refine zj_iconst (pc := 95) (v := 3) C dX6_bestGate_95 (by decide) ?_
                refine zj_callPA (pc := 96) C kv_X6_225 (m_X6_countChanges (cc := 3) hP hv hWK hTR (by decide)) dX6_bestGate_96 [0, 1, 2, 3, 4, 5, 6, 7] [] rfl rfl rfl rfl rfl rfl rfl rfl ⟨0, rfl⟩ rfl rfl ?_
                refine zj_top (x' := nI (cF (kA g) 3 (wK g st W1).2.2.2.1 (tSg g (jD (wK g st W1).1 d0 i j 1)))) (congrArg nI (ccN_c hk2)) ?_
                refine zj_istore (pc := 99) C dX6_bestGate_99 (Nat.le_of_ble_eq_true rfl) ?_
                have hl1 := cF_le (c := 3) (S1 := (wK g st W1).2.2.2.1) (F := tSg g (jD (wK g st W1).1 d0 i j 1)) hk2
                refine zj_iload (pc := 101) C dX6_bestGate_101 rfl ?_
                refine zj_iload_n (pc := 103) C dX6_bestGate_103 rfl ?_
                refine zj_icmp_le (pc := 104) 118 C dX6_bestGate_104 (by decide) (fun c_104 => ?_) (fun c_104 => ?_)
                · refine zj_iinc (pc := 118) (v := nI (j + 1)) C dX6_bestGate_118 rfl (nI_1 _) ?_
                  refine zj_goto (pc := 121) (tgt := 52) C dX6_bestGate_121 (by decide) ?_
                  rw [nI_leI (by omega) (by omega)] at c_104
                  refine zj_keep [true, true, true, true, true, true, true, true, false] ?_
                  exact zj_loc (lo' := [some (.ref (ad 0 0)), some (.int (nI d0)), some (.int w), some (.int (nI (bgJ g (wK g st W1) d0 i (bgI g (wK g st W1) d0 i) (j + 1)).1)), some (.int (optI ((bgJ g (wK g st W1) d0 i (bgI g (wK g st W1) d0 i) (j + 1)).2.map Prod.fst))), some (.int (optI ((bgJ g (wK g st W1) d0 i (bgI g (wK g st W1) d0 i) (j + 1)).2.map Prod.snd))), some (.int (nI (i))), some (.int (nI (j + 1))), none]) (by rw [bgJ_n (by omega)]; rfl) (ihj (j + 1, _) ⟨hjl, hTR⟩ (by show 14 - (j + 1) < 14 - j; omega))
                · refine zj_iload (pc := 107) C dX6_bestGate_107 rfl ?_
                  refine zj_istore_n (pc := 109) C dX6_bestGate_109 (Nat.le_of_ble_eq_true rfl) ?_
                  refine zj_iload (pc := 110) C dX6_bestGate_110 rfl ?_
                  refine zj_istore (pc := 112) C dX6_bestGate_112 (Nat.le_of_ble_eq_true rfl) ?_
                  refine zj_iload (pc := 114) C dX6_bestGate_114 rfl ?_
                  refine zj_istore (pc := 116) C dX6_bestGate_116 (Nat.le_of_ble_eq_true rfl) ?_
                  refine zj_iinc (pc := 118) (v := nI (j + 1)) C dX6_bestGate_118 rfl (nI_1 _) ?_
                  refine zj_goto (pc := 121) (tgt := 52) C dX6_bestGate_121 (by decide) ?_
                  rw [nI_leI (by omega) (by omega)] at c_104
                  refine zj_keep [true, true, true, true, true, true, true, true, false] ?_
                  exact zj_loc (lo' := [some (.ref (ad 0 0)), some (.int (nI d0)), some (.int w), some (.int (nI (bgJ g (wK g st W1) d0 i (bgI g (wK g st W1) d0 i) (j + 1)).1)), some (.int (optI ((bgJ g (wK g st W1) d0 i (bgI g (wK g st W1) d0 i) (j + 1)).2.map Prod.fst))), some (.int (optI ((bgJ g (wK g st W1) d0 i (bgI g (wK g st W1) d0 i) (j + 1)).2.map Prod.snd))), some (.int (nI (i))), some (.int (nI (j + 1))), none]) (by rw [bgJ_t c_68 (by omega)]; rfl) (ihj (j + 1, _) ⟨hjl, hTR⟩ (by show 14 - (j + 1) < 14 - j; omega))
              · refine zj_goto (pc := 71) (tgt := 118) C dX6_bestGate_71 (by decide) ?_
                refine zj_iinc (pc := 118) (v := nI (j + 1)) C dX6_bestGate_118 rfl (nI_1 _) ?_
                refine zj_goto (pc := 121) (tgt := 52) C dX6_bestGate_121 (by decide) ?_
                refine zj_keep [true, true, true, true, true, true, true, true, false] ?_
                exact zj_loc (lo' := [some (.ref (ad 0 0)), some (.int (nI d0)), some (.int w), some (.int (nI (bgJ g (wK g st W1) d0 i (bgI g (wK g st W1) d0 i) (j + 1)).1)), some (.int (optI ((bgJ g (wK g st W1) d0 i (bgI g (wK g st W1) d0 i) (j + 1)).2.map Prod.fst))), some (.int (optI ((bgJ g (wK g st W1) d0 i (bgI g (wK g st W1) d0 i) (j + 1)).2.map Prod.snd))), some (.int (nI (i))), some (.int (nI (j + 1))), none]) (by rw [bgJ_f c_68]; rfl) (ihj (j + 1, W9) ⟨hjl, h9⟩ (by show 14 - (j + 1) < 14 - j; omega))
        · refine zj_bipush (pc := 22) (v := (-2)) C dX6_bestGate_22 (by decide) ?_
          refine zj_iret C hr hlocks dX6_bestGate_24 ?_
          have h99 : 2 < w := Int32.not_le.mp c_19
          have hw : ¬ (!(decide (w < 0)) && !(decide (2 < w))) = true := by simp [h99]
          exact ⟨by unfold aBG; rw [if_pos (by simp [c_4, c_8]), if_pos (Or.inr h99)], W2, hW2, by dsimp only; rw [if_neg (fun h => hw (by simp only [Bool.and_eq_true] at h ⊢; exact h.2))]; rfl⟩
    · refine zj_iconst (pc := 11) (v := (-1)) C dX6_bestGate_11 (by decide) ?_
      refine zj_iret C hr hlocks dX6_bestGate_12 ?_
      exact ⟨by unfold aBG; rw [if_neg (by simp [c_8])], W2, hW2, by dsimp only; rw [if_neg (by simp [c_8])]; rfl⟩
