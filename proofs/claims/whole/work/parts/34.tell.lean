theorem rdN_hi {t : Nat → Nat} {n lo hi : Nat} {s : Nat × Bool} : (rdN t n lo hi s).1 ≤ hi := by
  unfold rdN
  split
  · exact Nat.zero_le _
  · split
    · exact Nat.zero_le _
    · rename_i d hd
      split
      · exact Nat.zero_le _
      · rename_i h1
        split
        · show d ≤ hi
          omega
        · rename_i e he
          split
          · rename_i h2
            exact h2.2
          · show d ≤ hi
            omega
/-- the numbers of a part are in their ranges -/
def T7ok (T : T7) : Prop := T.2.2.1 < 14 ∧ (T.2.1 = true → T.2.2.2.1 < 14) ∧ T.2.2.2.2.1 ≤ 20 ∧ T.2.2.2.2.2 < 4
theorem rdP_ok {t : Nat → Nat} {n : Nat} {T : T7} : T7ok (rdP t n T) := by
  unfold rdP
  split
  · refine ⟨?_, fun h => (by cases h), ?_, ?_⟩
    · exact Nat.lt_succ_of_le (rdN_hi (hi := 13))
    · exact rdN_hi (hi := 20)
    · exact Nat.lt_succ_of_le (rdN_hi (hi := 3))
  · refine ⟨?_, fun _ => ?_, ?_, ?_⟩
    · exact Nat.lt_succ_of_le (rdN_hi (hi := 13))
    · exact Nat.lt_succ_of_le (rdN_hi (hi := 13))
    · exact rdN_hi (hi := 20)
    · exact Nat.lt_succ_of_le (rdN_hi (hi := 3))
def tpR (g : Nat → Nat) (T : T7) : Int32 := if T.2.1 then refL (kL g) (nI T.2.2.1) (nI T.2.2.2.1) (nI T.2.2.2.2.1) else refA (kA g) (nI T.2.2.2.2.1)
def tpP (g : Nat → Nat) (P : PC) (T : T7) : PC := if T.2.1 then (P.1, pAdd P.2.1 (kL g) (nI T.2.2.1) (nI T.2.2.2.1) (nI T.2.2.2.2.1) (nI T.2.2.2.2.2), nI (kL g + 1), P.2.2.2.1, P.2.2.2.2) else (P.1, P.2.1, P.2.2.1, pAddA P.2.2.2.1 (kA g) (nI T.2.2.1) (nI T.2.2.2.2.1) (nI T.2.2.2.2.2), nI (kA g + 1))
def tpG (g : Nat → Nat) (T : T7) : Nat → Nat := if T.2.1 then gAdd g T.2.2.1 T.2.2.2.1 T.2.2.2.2.1 T.2.2.2.2.2 else gAddA g T.2.2.1 T.2.2.2.2.1 T.2.2.2.2.2
theorem tp_ok {g : Nat → Nat} {P : PC} {T : T7} (hP : PR g P) (hv : Vg g) (hT : T7ok T) (h : tpR g T = 0) : PR (tpG g T) (tpP g P T) ∧ Vg (tpG g T) := by
  unfold tpR at h
  unfold tpG tpP
  cases hl : T.2.1 with
  | true =>
    rw [hl, if_pos rfl] at h
    obtain ⟨h1, h2, h3, h4⟩ := refL_0 h
    have hk : kL g < 24 := by have := hv.1; omega
    have h5 : 1 ≤ T.2.2.2.2.1 := by
      rcases Nat.eq_zero_or_pos T.2.2.2.2.1 with q | q
      · rw [q] at h1; exact absurd (by decide) h1
      · exact q
    exact ⟨PR_add hP hk, Vg_add hv hk hT.1 (hT.2.1 hl) (fun e => h3 (by rw [e])) h5 hT.2.2.1 hT.2.2.2⟩
  | false =>
    rw [hl] at h
    obtain ⟨h1, h2, h3⟩ := refA_0 h
    have hk : kA g < 12 := by have := hv.2.1; omega
    exact ⟨PR_addA hP hv, Vg_addA hv hk hT.1 hT.2.2.1 hT.2.2.2⟩
def taI (t : Nat → Nat) (n : Nat) : Nat → T7 → (Nat → Nat) → PC → Nat → (Option Int32) × Nat × T7 × (Nat → Nat) × PC
  | 0, T, g, P, k => (none, k, T, g, P)
  | j + 1, T, g, P, k => if T.1.1 < n then (if tpR g (rdP t n T) = 0 then taI t n j (rdP t n T) (tpG g (rdP t n T)) (tpP g P (rdP t n T)) (k + 1) else (some (tpR g (rdP t n T)), k, rdP t n T, g, P)) else (none, k, T, g, P)

set_option maxRecDepth 100000 in
set_option maxHeartbeats 4000000 in
theorem m_X6_tellPart {l : Launch} {G : GG} {ad : Nat → Nat → Nat} {q : Nat → Nat → Nat} {P Pd Ps : PC} {kp : Bool} {HP : Nat → PC} {hn : Nat} {t : Nat → Nat} {tn : Nat} {T : T7} {W1 W2 : TC} {st : Bool} {gd : Nat → Nat} (hPd : PR gd Pd) (hvd : Vg gd) : zX l G yX6_tellPart cX6_tellPart 2 (some .int) 3 65 0 0 [.ref (ad 0 0)] (cls G ad q P Pd Ps kp HP hn t tn T W1 W2 st) (zF (some (.int (tpR gd T))) (cls G ad q P (if tpR gd T = 0 then tpP gd Pd T else Pd) Ps kp HP hn t tn T W1 W2 st)) := by
  refine zj_startF RX6 (by decide +kernel) rfl rfl rfl (bs := [[((ad 0 0), .inr (6, [.ref (ad 1 0), .ref (ad 2 0), .ref (ad 3 0), .int (bI kp), .ref (ad 4 0), .ref (ad 5 0), .ref (ad 6 0), .ref (ad 7 0), .int (bI st)]))], plan G (ad 1) P, plan G (ad 2) Pd, plan G (ad 3) Ps, hist G (ad 4) q HP hn, text G (ad 5 0) (ad 5 1) t tn T, totT G (ad 6) W1, totT G (ad 7) W2]) rfl (lo := [some (.ref (ad 0 0)), none]) rfl ?_
  intro p0 e0 s0 m0 args0 below0 meth0 c0 A0 C hr hlocks
  refine zj_aload_n (pc := 0) C dX6_tellPart_0 rfl ?_
  refine gf_X6_5 (pc := 1) C dX6_tellPart_1 0 rfl ?_
  refine zj_callP1 (pc := 4) C kv_X6_243 (m_X3_isLane) dX6_tellPart_4 5 rfl rfl rfl rfl rfl rfl rfl ⟨0, rfl⟩ rfl rfl ?_
  refine zj_ifb_ne (pc := 7) 60 C dX6_tellPart_7 (by decide) (fun c_7 => ?_) (fun c_7 => ?_)
  · refine zj_aload_n (pc := 60) C dX6_tellPart_60 rfl ?_
    refine gf_X6_1 (pc := 61) C dX6_tellPart_61 0 rfl ?_
    refine zj_aload_n (pc := 64) C dX6_tellPart_64 rfl ?_
    refine gf_X6_5 (pc := 65) C dX6_tellPart_65 0 rfl ?_
    refine zj_callP1 (pc := 68) C kv_X6_249 (m_X3_one) dX6_tellPart_68 5 rfl rfl rfl rfl rfl rfl rfl ⟨0, rfl⟩ rfl rfl ?_
    refine zj_aload_n (pc := 71) C dX6_tellPart_71 rfl ?_
    refine gf_X6_5 (pc := 72) C dX6_tellPart_72 0 rfl ?_
    refine zj_callP1 (pc := 75) C kv_X6_255 (m_X3_other) dX6_tellPart_75 5 rfl rfl rfl rfl rfl rfl rfl ⟨0, rfl⟩ rfl rfl ?_
    refine zj_aload_n (pc := 78) C dX6_tellPart_78 rfl ?_
    refine gf_X6_5 (pc := 79) C dX6_tellPart_79 0 rfl ?_
    refine zj_callP1 (pc := 82) C kv_X6_246 (m_X3_length) dX6_tellPart_82 5 rfl rfl rfl rfl rfl rfl rfl ⟨0, rfl⟩ rfl rfl ?_
    refine zj_callP1 (pc := 85) C kv_X6_60 (m_X1_refusalOfLane hPd hvd) dX6_tellPart_85 2 rfl rfl rfl rfl rfl rfl rfl ⟨0, rfl⟩ rfl rfl ?_
    refine zj_istore_n (pc := 88) C dX6_tellPart_88 (Nat.le_of_ble_eq_true rfl) ?_
    refine zj_iload_n (pc := 89) C dX6_tellPart_89 rfl ?_
    refine zj_if_ne (pc := 90) 129 C dX6_tellPart_90 (by decide) (fun c_90 => ?_) (fun c_90 => ?_)
    · refine zj_iload_n (pc := 129) C dX6_tellPart_129 rfl ?_
      have h0 : ¬ tpR gd T = 0 := by unfold tpR; rw [c_7]; exact c_90
      exact zj_iretF C hr hlocks dX6_tellPart_130 (by unfold tpR; rw [c_7]; rfl) (by rw [if_neg h0]; rfl)
    · refine zj_aload_n (pc := 93) C dX6_tellPart_93 rfl ?_
      refine gf_X6_1 (pc := 94) C dX6_tellPart_94 0 rfl ?_
      refine zj_aload_n (pc := 97) C dX6_tellPart_97 rfl ?_
      refine gf_X6_5 (pc := 98) C dX6_tellPart_98 0 rfl ?_
      refine zj_callP1 (pc := 101) C kv_X6_249 (m_X3_one) dX6_tellPart_101 5 rfl rfl rfl rfl rfl rfl rfl ⟨0, rfl⟩ rfl rfl ?_
      refine zj_aload_n (pc := 104) C dX6_tellPart_104 rfl ?_
      refine gf_X6_5 (pc := 105) C dX6_tellPart_105 0 rfl ?_
      refine zj_callP1 (pc := 108) C kv_X6_255 (m_X3_other) dX6_tellPart_108 5 rfl rfl rfl rfl rfl rfl rfl ⟨0, rfl⟩ rfl rfl ?_
      refine zj_aload_n (pc := 111) C dX6_tellPart_111 rfl ?_
      refine gf_X6_5 (pc := 112) C dX6_tellPart_112 0 rfl ?_
      refine zj_callP1 (pc := 115) C kv_X6_246 (m_X3_length) dX6_tellPart_115 5 rfl rfl rfl rfl rfl rfl rfl ⟨0, rfl⟩ rfl rfl ?_
      refine zj_aload_n (pc := 118) C dX6_tellPart_118 rfl ?_
      refine gf_X6_5 (pc := 119) C dX6_tellPart_119 0 rfl ?_
      refine zj_callP1 (pc := 122) C kv_X6_252 (m_X3_district) dX6_tellPart_122 5 rfl rfl rfl rfl rfl rfl rfl ⟨0, rfl⟩ rfl rfl ?_
      refine zj_callF1 (pc := 125) C kv_X6_67 (m_X1_addLane hPd (by have := (refL_0 c_90).2.2.2; have := hvd.1; omega)) dX6_tellPart_125 2 rfl rfl rfl rfl rfl rfl rfl ⟨0, rfl⟩ rfl rfl ?_
      refine zj_pop (pc := 128) C dX6_tellPart_128 rfl ?_
      refine zj_iload_n (pc := 129) C dX6_tellPart_129 rfl ?_
      have h0 : tpR gd T = 0 := by unfold tpR; rw [c_7]; exact c_90
      exact zj_iretF C hr hlocks dX6_tellPart_130 (by rw [h0]; exact c_90) (by rw [if_pos h0, tpP, c_7]; rfl)
  · refine zj_aload_n (pc := 10) C dX6_tellPart_10 rfl ?_
    refine gf_X6_1 (pc := 11) C dX6_tellPart_11 0 rfl ?_
    refine zj_aload_n (pc := 14) C dX6_tellPart_14 rfl ?_
    refine gf_X6_5 (pc := 15) C dX6_tellPart_15 0 rfl ?_
    refine zj_callP1 (pc := 18) C kv_X6_246 (m_X3_length) dX6_tellPart_18 5 rfl rfl rfl rfl rfl rfl rfl ⟨0, rfl⟩ rfl rfl ?_
    refine zj_callP1 (pc := 21) C kv_X6_96 (m_X1_refusalOfAlley hPd hvd) dX6_tellPart_21 2 rfl rfl rfl rfl rfl rfl rfl ⟨0, rfl⟩ rfl rfl ?_
    refine zj_istore_n (pc := 24) C dX6_tellPart_24 (Nat.le_of_ble_eq_true rfl) ?_
    refine zj_iload_n (pc := 25) C dX6_tellPart_25 rfl ?_
    refine zj_if_ne (pc := 26) 58 C dX6_tellPart_26 (by decide) (fun c_26 => ?_) (fun c_26 => ?_)
    · refine zj_iload_n (pc := 58) C dX6_tellPart_58 rfl ?_
      have h0 : ¬ tpR gd T = 0 := by unfold tpR; rw [c_7]; exact c_26
      exact zj_iretF C hr hlocks dX6_tellPart_59 (by unfold tpR; rw [c_7]; rfl) (by rw [if_neg h0]; rfl)
    · refine zj_aload_n (pc := 29) C dX6_tellPart_29 rfl ?_
      refine gf_X6_1 (pc := 30) C dX6_tellPart_30 0 rfl ?_
      refine zj_aload_n (pc := 33) C dX6_tellPart_33 rfl ?_
      refine gf_X6_5 (pc := 34) C dX6_tellPart_34 0 rfl ?_
      refine zj_callP1 (pc := 37) C kv_X6_249 (m_X3_one) dX6_tellPart_37 5 rfl rfl rfl rfl rfl rfl rfl ⟨0, rfl⟩ rfl rfl ?_
      refine zj_aload_n (pc := 40) C dX6_tellPart_40 rfl ?_
      refine gf_X6_5 (pc := 41) C dX6_tellPart_41 0 rfl ?_
      refine zj_callP1 (pc := 44) C kv_X6_246 (m_X3_length) dX6_tellPart_44 5 rfl rfl rfl rfl rfl rfl rfl ⟨0, rfl⟩ rfl rfl ?_
      refine zj_aload_n (pc := 47) C dX6_tellPart_47 rfl ?_
      refine gf_X6_5 (pc := 48) C dX6_tellPart_48 0 rfl ?_
      refine zj_callP1 (pc := 51) C kv_X6_252 (m_X3_district) dX6_tellPart_51 5 rfl rfl rfl rfl rfl rfl rfl ⟨0, rfl⟩ rfl rfl ?_
      refine zj_callF1 (pc := 54) C kv_X6_99 (m_X1_addAlley hPd (by have := (refA_0 c_26).2.2; have := hvd.2.1; omega)) dX6_tellPart_54 2 rfl rfl rfl rfl rfl rfl rfl ⟨0, rfl⟩ rfl rfl ?_
      refine zj_pop (pc := 57) C dX6_tellPart_57 rfl ?_
      refine zj_iload_n (pc := 58) C dX6_tellPart_58 rfl ?_
      have h0 : tpR gd T = 0 := by unfold tpR; rw [c_7]; exact c_26
      exact zj_iretF C hr hlocks dX6_tellPart_59 (by rw [h0]; exact c_26) (by rw [if_pos h0, tpP, c_7]; rfl)
