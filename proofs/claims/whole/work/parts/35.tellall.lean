def taT (t : Nat → Nat) (tn : Nat) (T : T7) : T7 := ((0, false), (ffS t tn 60 ((0, false), T.2)).2)
def taF (g : Nat → Nat) (t : Nat → Nat) (tn : Nat) (T : T7) (P : PC) : (Option Int32) × Nat × T7 × (Nat → Nat) × PC := taI t tn 60 (taT t tn T) g P 0
/-- how tellAll ends: a fault, a refusal, or so many parts -/
def taA (g : Nat → Nat) (t : Nat → Nat) (tn : Nat) (T : T7) (P : PC) : Int32 := match ffR t tn 60 ((0, false), T.2) with
  | some p => -100 - nI p
  | none => match (taF g t tn T P).1 with
    | some r => r
    | none => nI (taF g t tn T P).2.1
theorem taI_n {t : Nat → Nat} {n j k : Nat} {T : T7} {g : Nat → Nat} {P : PC} (h : ¬ T.1.1 < n) : taI t n (j + 1) T g P k = (none, k, T, g, P) := if_neg h
theorem taI_g {t : Nat → Nat} {n j k : Nat} {T : T7} {g : Nat → Nat} {P : PC} (h : T.1.1 < n) (h2 : tpR g (rdP t n T) = 0) : taI t n (j + 1) T g P k = taI t n j (rdP t n T) (tpG g (rdP t n T)) (tpP g P (rdP t n T)) (k + 1) := by
  show (if T.1.1 < n then _ else _) = _
  rw [if_pos h, if_pos h2]
theorem taI_r {t : Nat → Nat} {n j k : Nat} {T : T7} {g : Nat → Nat} {P : PC} (h : T.1.1 < n) (h2 : ¬ tpR g (rdP t n T) = 0) : taI t n (j + 1) T g P k = (some (tpR g (rdP t n T)), k, rdP t n T, g, P) := by
  show (if T.1.1 < n then _ else _) = _
  rw [if_pos h, if_neg h2]
theorem ffR_lt {t : Nat → Nat} {n : Nat} (hn : n ≤ 60) : ∀ (j : Nat) (T : T7), T.1.1 ≤ 60 → ∀ i, ffR t n j T = some i → i ≤ 60
  | 0, T, h, i, e => by cases e; exact h
  | j + 1, T, h, i, e => by
    unfold ffR at e
    split at e
    · cases e; exact h
    · split at e
      · cases e
      · exact ffR_lt hn j _ (rdP_le h hn) i e

set_option maxRecDepth 100000 in
set_option maxHeartbeats 4000000 in
theorem m_X6_tellAll {l : Launch} {G : GG} {ad : Nat → Nat → Nat} {q : Nat → Nat → Nat} {P Pd Ps : PC} {kp : Bool} {HP : Nat → PC} {hn : Nat} {t : Nat → Nat} {tn : Nat} {T : T7} {W1 W2 : TC} {st : Bool} {g : Nat → Nat} (hP : PR g P) (hv : Vg g) (hh : hn ≤ 4) (htn : tn ≤ 60) (htc : ∀ k, k < tn → t k < 65536) : zX l G yX6_tellAll cX6_tellAll 4 (some .int) 6 128 0 0 [.ref (ad 0 0)] (cls G ad q P Pd Ps kp HP hn t tn T W1 W2 st) (zF (some (.int (taA g t tn T P))) (if (ffR t tn 60 ((0, false), T.2)).isSome then cls G ad q P Pd Ps kp HP hn t tn (ffS t tn 60 ((0, false), T.2)) W1 W2 st else if (taF g t tn T P).1.isSome then cls G ad q P (taF g t tn T P).2.2.2.2 Ps kp HP hn t tn (taF g t tn T P).2.2.1 W1 W2 st else cls G ad (hQ q hn) (taF g t tn T P).2.2.2.2 (taF g t tn T P).2.2.2.2 Ps kp (hP' HP hn P) (hN hn) t tn (taF g t tn T P).2.2.1 W1 W2 true)) := by
  refine zj_startF RX6 (by decide +kernel) rfl rfl rfl (bs := [[((ad 0 0), .inr (6, [.ref (ad 1 0), .ref (ad 2 0), .ref (ad 3 0), .int (bI kp), .ref (ad 4 0), .ref (ad 5 0), .ref (ad 6 0), .ref (ad 7 0), .int (bI st)]))], plan G (ad 1) P, plan G (ad 2) Pd, plan G (ad 3) Ps, hist G (ad 4) q HP hn, text G (ad 5 0) (ad 5 1) t tn T, totT G (ad 6) W1, totT G (ad 7) W2]) rfl (lo := [some (.ref (ad 0 0)), none, none, none]) rfl ?_
  intro p0 e0 s0 m0 args0 below0 meth0 c0 A0 C hr hlocks
  refine zj_aload_n (pc := 0) C dX6_tellAll_0 rfl ?_
  refine gf_X6_5 (pc := 1) C dX6_tellAll_1 0 rfl ?_
  refine zj_callF1 (pc := 4) C kv_X6_108 (m_X3_findFault htn htc) dX6_tellAll_4 5 rfl rfl rfl rfl rfl rfl rfl ⟨0, rfl⟩ rfl rfl ?_
  refine zj_top (x' := optI (ffR t tn 60 ((0, false), T.2))) rfl ?_
  refine zj_istore_n (pc := 7) C dX6_tellAll_7 (Nat.le_of_ble_eq_true rfl) ?_
  refine zj_iload_n (pc := 8) C dX6_tellAll_8 rfl ?_
  refine zj_bipush (pc := 9) (v := (-5)) C dX6_tellAll_9 (by decide) ?_
  refine zj_icmp_eq (pc := 11) 19 C dX6_tellAll_11 (by decide) (fun c_11 => ?_) (fun c_11 => ?_)
  · refine zj_aload_n (pc := 19) C dX6_tellAll_19 rfl ?_
    refine gf_X6_1 (pc := 20) C dX6_tellAll_20 0 rfl ?_
    refine zj_aload_n (pc := 23) C dX6_tellAll_23 rfl ?_
    refine gf_X6_0 (pc := 24) C dX6_tellAll_24 0 rfl ?_
    refine zj_callF2n (pc := 27) C kv_X6_111 (m_X1_copyFrom) dX6_tellAll_27 2 1 rfl rfl rfl rfl rfl rfl rfl rfl rfl ⟨0, rfl⟩ rfl rfl ?_
    refine zj_aload_n (pc := 30) C dX6_tellAll_30 rfl ?_
    refine gf_X6_5 (pc := 31) C dX6_tellAll_31 0 rfl ?_
    refine zj_callF1n (pc := 34) C kv_X6_115 (m_X3_start) dX6_tellAll_34 5 rfl rfl rfl rfl rfl rfl rfl ⟨0, rfl⟩ rfl rfl ?_
    refine zj_blk (bs' := [[((ad 0 0), .inr (6, [.ref (ad 1 0), .ref (ad 2 0), .ref (ad 3 0), .int (bI kp), .ref (ad 4 0), .ref (ad 5 0), .ref (ad 6 0), .ref (ad 7 0), .int (bI st)]))], plan G (ad 1) P, plan G (ad 2) P, plan G (ad 3) Ps, hist G (ad 4) q HP hn, text G (ad 5 0) (ad 5 1) t tn (taT t tn T), totT G (ad 6) W1, totT G (ad 7) W2]) rfl ?_
    refine zj_iconst (pc := 37) (v := 0) C dX6_tellAll_37 (by decide) ?_
    refine zj_istore_n (pc := 38) C dX6_tellAll_38 (Nat.le_of_ble_eq_true rfl) ?_
    refine zj_keep [true, false, true, false] ?_
    refine zj_loopW (σ := (Nat × T7 × (Nat → Nat) × PC)) (fun x => x.1 ≤ 60 ∧ x.2.1.1.1 ≤ 60 ∧ PR x.2.2.1 x.2.2.2 ∧ Vg x.2.2.1 ∧ taF g t tn T P = taI t tn (60 - x.1) x.2.1 x.2.2.1 x.2.2.2 x.1) (fun x => 60 - x.1) (fun x => [[((ad 0 0), .inr (6, [.ref (ad 1 0), .ref (ad 2 0), .ref (ad 3 0), .int (bI kp), .ref (ad 4 0), .ref (ad 5 0), .ref (ad 6 0), .ref (ad 7 0), .int (bI st)]))], plan G (ad 1) P, plan G (ad 2) x.2.2.2, plan G (ad 3) Ps, hist G (ad 4) q HP hn, text G (ad 5 0) (ad 5 1) t tn x.2.1, totT G (ad 6) W1, totT G (ad 7) W2]) (fun x => [some (.ref (ad 0 0)), none, some (.int (nI x.1)), none]) ?_ (0, taT t tn T, g, P) ⟨Nat.zero_le _, Nat.zero_le _, hP, hv, rfl⟩
    intro x hx ih
    obtain ⟨k, Tk, gk, Pk⟩ := x
    obtain ⟨hk, hT60, hPk, hvk, hI⟩ := hx
    replace hk : k ≤ 60 := hk
    replace hT60 : Tk.1.1 ≤ 60 := hT60
    replace hPk : PR gk Pk := hPk
    replace hvk : Vg gk := hvk
    replace hI : taF g t tn T P = taI t tn (60 - k) Tk gk Pk k := hI
    refine zj_eq (bs' := [[((ad 0 0), .inr (6, [.ref (ad 1 0), .ref (ad 2 0), .ref (ad 3 0), .int (bI kp), .ref (ad 4 0), .ref (ad 5 0), .ref (ad 6 0), .ref (ad 7 0), .int (bI st)]))], plan G (ad 1) P, plan G (ad 2) Pk, plan G (ad 3) Ps, hist G (ad 4) q HP hn, text G (ad 5 0) (ad 5 1) t tn Tk, totT G (ad 6) W1, totT G (ad 7) W2]) (lo' := [some (.ref (ad 0 0)), none, some (.int (nI k)), none]) rfl rfl rfl ?_
    refine zj_aload_n (pc := 39) C dX6_tellAll_39 rfl ?_
    refine gf_X6_5 (pc := 40) C dX6_tellAll_40 0 rfl ?_
    refine zj_callP1 (pc := 43) C kv_X6_118 (m_X3_hasMore (s := Tk.1) htn hT60) dX6_tellAll_43 5 rfl rfl rfl rfl rfl rfl rfl ⟨0, rfl⟩ rfl rfl ?_
    refine zj_ifb_eq (pc := 46) 79 C dX6_tellAll_46 (by decide) (fun c_46 => ?_) (fun c_46 => ?_)
    · have hmore : ¬ Tk.1.1 < tn := of_decide_eq_false c_46
      have hF9 : taF g t tn T P = (none, k, Tk, gk, Pk) := by
        rw [hI]
        cases hj : 60 - k with
        | zero => rfl
        | succ j => exact taI_n hmore
      refine zj_aload_n (pc := 79) C dX6_tellAll_79 rfl ?_
      refine zj_callA (pc := 80) C kv_X6_64 (m_X6_beginAct hh) dX6_tellAll_80 [0, 1, 2, 3, 4, 5, 6, 7] [] rfl rfl rfl rfl rfl rfl rfl rfl ⟨0, rfl⟩ rfl rfl (fun v w1 hq => ?_)
      obtain ⟨rfl, rfl⟩ := hq
      refine zj_blk (bs' := [[((ad 0 0), .inr (6, [.ref (ad 1 0), .ref (ad 2 0), .ref (ad 3 0), .int (bI kp), .ref (ad 4 0), .ref (ad 5 0), .ref (ad 6 0), .ref (ad 7 0), .int (bI true)]))], plan G (ad 1) P, plan G (ad 2) Pk, plan G (ad 3) Ps, hist G (ad 4) (hQ q hn) (hP' HP hn P) (hN hn), text G (ad 5 0) (ad 5 1) t tn Tk, totT G (ad 6) W1, totT G (ad 7) W2]) rfl ?_
      refine zj_aload_n (pc := 83) C dX6_tellAll_83 rfl ?_
      refine gf_X6_0 (pc := 84) C dX6_tellAll_84 0 rfl ?_
      refine zj_aload_n (pc := 87) C dX6_tellAll_87 rfl ?_
      refine gf_X6_1 (pc := 88) C dX6_tellAll_88 0 rfl ?_
      refine zj_callF2n (pc := 91) C kv_X6_111 (m_X1_copyFrom) dX6_tellAll_91 1 2 rfl rfl rfl rfl rfl rfl rfl rfl rfl ⟨0, rfl⟩ rfl rfl ?_
      refine zj_iload_n (pc := 94) C dX6_tellAll_94 rfl ?_
      have hnf : ffR t tn 60 ((0, false), T.2) = none := (optI_5 (fun i h => by have := ffR_lt htn _ _ (Nat.zero_le 60) i h; omega)).mp c_11
      exact zj_iretF C hr hlocks dX6_tellAll_95 (by unfold taA; rw [hnf, hF9]) (by rw [if_neg (by rw [hnf]; decide), if_neg (by rw [hF9]; simp), hF9]; rfl)
    · have hmore : Tk.1.1 < tn := of_decide_eq_true c_46
      refine zj_iload_n (pc := 49) C dX6_tellAll_49 rfl ?_
      refine zj_bipush (pc := 50) (v := 60) C dX6_tellAll_50 (by decide) ?_
      refine zj_icmp_ge (pc := 52) 79 C dX6_tellAll_52 (by decide) (fun c_52 => ?_) (fun c_52 => ?_)
      · have hk9 : k = 60 := Nat.le_antisymm hk (zle c_52 (by omega))
        have hF9 : taF g t tn T P = (none, k, Tk, gk, Pk) := by rw [hI, hk9]; rfl
        refine zj_aload_n (pc := 79) C dX6_tellAll_79 rfl ?_
        refine zj_callA (pc := 80) C kv_X6_64 (m_X6_beginAct hh) dX6_tellAll_80 [0, 1, 2, 3, 4, 5, 6, 7] [] rfl rfl rfl rfl rfl rfl rfl rfl ⟨0, rfl⟩ rfl rfl (fun v w1 hq => ?_)
        obtain ⟨rfl, rfl⟩ := hq
        refine zj_blk (bs' := [[((ad 0 0), .inr (6, [.ref (ad 1 0), .ref (ad 2 0), .ref (ad 3 0), .int (bI kp), .ref (ad 4 0), .ref (ad 5 0), .ref (ad 6 0), .ref (ad 7 0), .int (bI true)]))], plan G (ad 1) P, plan G (ad 2) Pk, plan G (ad 3) Ps, hist G (ad 4) (hQ q hn) (hP' HP hn P) (hN hn), text G (ad 5 0) (ad 5 1) t tn Tk, totT G (ad 6) W1, totT G (ad 7) W2]) rfl ?_
        refine zj_aload_n (pc := 83) C dX6_tellAll_83 rfl ?_
        refine gf_X6_0 (pc := 84) C dX6_tellAll_84 0 rfl ?_
        refine zj_aload_n (pc := 87) C dX6_tellAll_87 rfl ?_
        refine gf_X6_1 (pc := 88) C dX6_tellAll_88 0 rfl ?_
        refine zj_callF2n (pc := 91) C kv_X6_111 (m_X1_copyFrom) dX6_tellAll_91 1 2 rfl rfl rfl rfl rfl rfl rfl rfl rfl ⟨0, rfl⟩ rfl rfl ?_
        refine zj_iload_n (pc := 94) C dX6_tellAll_94 rfl ?_
        have hnf : ffR t tn 60 ((0, false), T.2) = none := (optI_5 (fun i h => by have := ffR_lt htn _ _ (Nat.zero_le 60) i h; omega)).mp c_11
        exact zj_iretF C hr hlocks dX6_tellAll_95 (by unfold taA; rw [hnf, hF9]) (by rw [if_neg (by rw [hnf]; decide), if_neg (by rw [hF9]; simp), hF9]; rfl)
      · have hk60 : k + 1 ≤ 60 := zlt (b := 60) c_52 (by omega)
        refine zj_aload_n (pc := 55) C dX6_tellAll_55 rfl ?_
        refine gf_X6_5 (pc := 56) C dX6_tellAll_56 0 rfl ?_
        refine zj_callF1n (pc := 59) C kv_X6_122 (m_X3_readPart (s := Tk.1) htn htc hT60) dX6_tellAll_59 5 rfl rfl rfl rfl rfl rfl rfl ⟨0, rfl⟩ rfl rfl ?_
        refine zj_aload_n (pc := 62) C dX6_tellAll_62 rfl ?_
        refine zj_callA (pc := 63) C kv_X6_125 (m_X6_tellPart hPk hvk) dX6_tellAll_63 [0, 1, 2, 3, 4, 5, 6, 7] [] rfl rfl rfl rfl rfl rfl rfl rfl ⟨0, rfl⟩ rfl rfl (fun v w1 hq => ?_)
        obtain ⟨rfl, rfl⟩ := hq
        refine zj_blk (bs' := [[((ad 0 0), .inr (6, [.ref (ad 1 0), .ref (ad 2 0), .ref (ad 3 0), .int (bI kp), .ref (ad 4 0), .ref (ad 5 0), .ref (ad 6 0), .ref (ad 7 0), .int (bI st)]))], plan G (ad 1) P, plan G (ad 2) (if tpR gk (rdP t tn Tk) = 0 then tpP gk Pk (rdP t tn Tk) else Pk), plan G (ad 3) Ps, hist G (ad 4) q HP hn, text G (ad 5 0) (ad 5 1) t tn (rdP t tn Tk), totT G (ad 6) W1, totT G (ad 7) W2]) rfl ?_
        refine zj_istore_n (pc := 66) C dX6_tellAll_66 (Nat.le_of_ble_eq_true rfl) ?_
        refine zj_iload_n (pc := 67) C dX6_tellAll_67 rfl ?_
        refine zj_if_eq (pc := 68) 73 C dX6_tellAll_68 (by decide) (fun c_68 => ?_) (fun c_68 => ?_)
        · refine zj_iinc (pc := 73) (v := nI (k + 1)) C dX6_tellAll_73 rfl (nI_1 _) ?_
          refine zj_goto (pc := 76) (tgt := 39) C dX6_tellAll_76 (by decide) ?_
          have hgo := taI_g (t := t) (n := tn) (j := 59 - k) (k := k) (T := Tk) (g := gk) (P := Pk) hmore c_68
          obtain ⟨hP2, hv2⟩ := tp_ok hPk hvk (rdP_ok (t := t) (n := tn) (T := Tk)) c_68
          refine zj_keep [true, true, true, false] ?_
          refine zj_blk (bs' := [[((ad 0 0), .inr (6, [.ref (ad 1 0), .ref (ad 2 0), .ref (ad 3 0), .int (bI kp), .ref (ad 4 0), .ref (ad 5 0), .ref (ad 6 0), .ref (ad 7 0), .int (bI st)]))], plan G (ad 1) P, plan G (ad 2) (tpP gk Pk (rdP t tn Tk)), plan G (ad 3) Ps, hist G (ad 4) q HP hn, text G (ad 5 0) (ad 5 1) t tn (rdP t tn Tk), totT G (ad 6) W1, totT G (ad 7) W2]) (by rw [if_pos c_68]) ?_
          refine ih (k + 1, rdP t tn Tk, tpG gk (rdP t tn Tk), tpP gk Pk (rdP t tn Tk)) ⟨hk60, rdP_le hT60 htn, hP2, hv2, ?_⟩ (by show 60 - (k + 1) < 60 - k; omega)
          show taF g t tn T P = taI t tn (60 - (k + 1)) _ _ _ (k + 1)
          rw [hI, show 60 - k = 59 - k + 1 by omega, hgo, show 60 - (k + 1) = 59 - k by omega]
        · refine zj_iload_n (pc := 71) C dX6_tellAll_71 rfl ?_
          have hnf : ffR t tn 60 ((0, false), T.2) = none := (optI_5 (fun i h => by have := ffR_lt htn _ _ (Nat.zero_le 60) i h; omega)).mp c_11
          have hre := taI_r (t := t) (n := tn) (j := 59 - k) (k := k) (T := Tk) (g := gk) (P := Pk) hmore c_68
          have hF9 : taF g t tn T P = (some (tpR gk (rdP t tn Tk)), k, rdP t tn Tk, gk, Pk) := by rw [hI, show 60 - k = 59 - k + 1 by omega, hre]
          exact zj_iretF C hr hlocks dX6_tellAll_72 (by unfold taA; rw [hnf, hF9]) (by rw [if_neg (show ¬ tpR gk (rdP t tn Tk) = 0 from c_68), if_neg (by rw [hnf]; decide), if_pos (by rw [hF9]; rfl), hF9]; rfl)
  · refine zj_bipush (pc := 14) (v := (-100)) C dX6_tellAll_14 (by decide) ?_
    refine zj_iload_n (pc := 16) C dX6_tellAll_16 rfl ?_
    refine zj_isub (pc := 17) C dX6_tellAll_17 ?_
    obtain ⟨pf, hpf⟩ : ∃ pf, ffR t tn 60 ((0, false), T.2) = some pf := by
      cases h : ffR t tn 60 ((0, false), T.2) with
      | none => exact absurd (by rw [h]; rfl) c_11
      | some p => exact ⟨p, rfl⟩
    exact zj_iretF C hr hlocks dX6_tellAll_18 (by unfold taA; rw [hpf]; rfl) (by rw [if_pos (by rw [hpf]; rfl)]; rfl)
