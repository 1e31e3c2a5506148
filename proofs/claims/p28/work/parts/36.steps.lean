def stW (g : Nat → Nat) (W : TC) (x al i : Nat) : Bool := stp W.1 W.2.2.1 W.2.2.2.1 W.2.2.2.2.1 g i x al
def oeD (g : Nat → Nat) (i x : Nat) : Nat := (oeN g i x).getD 0
def erB (g : Nat → Nat) (x i b : Nat) : Bool := if oeD g i x = oeD g b x then decide (lnC g i 2 < lnC g b 2) else decide (oeD g i x < oeD g b x)
def fsN (g : Nat → Nat) (W : TC) (x al : Nat) : Nat → Option Nat
  | 0 => none
  | i + 1 => if stW g W x al i then (match fsN g W x al i with
    | none => some i
    | some b => if erB g x i b then some i else some b) else fsN g W x al i
def seN (g : Nat → Nat) (W : TC) (x al : Nat) : Nat → Nat
  | 0 => 0
  | i + 1 => if stW g W x al i then seN g W x al i ||| 2 ^ oeD g i x else seN g W x al i
theorem stW_oe {g : Nat → Nat} (hv : Vg g) {W : TC} {x al i : Nat} (h : stW g W x al i = true) : oeN g i x = some (oeD g i x) ∧ oeD g i x < 14 ∧ i < kL g := by
  unfold stW stp at h
  unfold oeD
  cases ho : oeN g i x with
  | none => rw [ho] at h; cases h
  | some nx => exact ⟨rfl, (oeN_s hv ho).2, (oeN_s hv ho).1⟩
theorem fsN_s {g : Nat → Nat} {W : TC} {x al : Nat} : ∀ {i b : Nat}, fsN g W x al i = some b → stW g W x al b = true ∧ b < i
  | 0, b, h => by cases h
  | i + 1, b, h => by
    unfold fsN at h
    split at h
    · rename_i hs
      split at h
      · cases h; exact ⟨hs, by omega⟩
      · rename_i b0 hb
        have ih := fsN_s hb
        split at h
        · cases h; exact ⟨hs, by omega⟩
        · cases h; exact ⟨ih.1, by omega⟩
    · have ih := fsN_s h
      exact ⟨ih.1, by omega⟩
theorem or_lt {a b n : Nat} (ha : a < 2 ^ n) (hb : b < 2 ^ n) : a ||| b < 2 ^ n := Nat.or_lt_two_pow ha hb
theorem seN_lt {g : Nat → Nat} (hv : Vg g) {W : TC} {x al : Nat} : ∀ i, seN g W x al i < 2 ^ 14
  | 0 => Nat.two_pow_pos 14
  | i + 1 => by
    have ih := seN_lt hv (W := W) (x := x) (al := al) i
    unfold seN
    split
    · rename_i hs
      exact or_lt ih (Nat.pow_lt_pow_right (by decide) (stW_oe hv hs).2.1)
    · exact ih
theorem seN_t {g : Nat → Nat} {W : TC} {x al i : Nat} (h : stW g W x al i = true) : seN g W x al (i + 1) = seN g W x al i ||| 2 ^ oeD g i x := by
  show (if stW g W x al i then _ else _) = _
  rw [if_pos h]
theorem seN_f {g : Nat → Nat} {W : TC} {x al i : Nat} (h : stW g W x al i = false) : seN g W x al (i + 1) = seN g W x al i := by
  show (if stW g W x al i then _ else _) = _
  rw [h]; rfl
theorem fsN_f {g : Nat → Nat} {W : TC} {x al i : Nat} (h : stW g W x al i = false) : fsN g W x al (i + 1) = fsN g W x al i := by
  show (if stW g W x al i then _ else _) = _
  rw [h]; rfl
theorem fsN_t0 {g : Nat → Nat} {W : TC} {x al i : Nat} (h : stW g W x al i = true) (h2 : fsN g W x al i = none) : fsN g W x al (i + 1) = some i := by
  show (if stW g W x al i then _ else _) = _
  rw [if_pos h, h2]
theorem fsN_t1 {g : Nat → Nat} {W : TC} {x al i b : Nat} (h : stW g W x al i = true) (h2 : fsN g W x al i = some b) : fsN g W x al (i + 1) = if erB g x i b then some i else some b := by
  show (if stW g W x al i then _ else _) = _
  rw [if_pos h, h2]

set_option maxRecDepth 100000 in
set_option maxHeartbeats 4000000 in
theorem m_X6_isEarlierStep {l : Launch} {G : GG} {ad : Nat → Nat → Nat} {q : Nat → Nat → Nat} {P Pd Ps : PC} {kp : Bool} {HP : Nat → PC} {hn : Nat} {t : Nat → Nat} {tn : Nat} {T : T7} {W1 W2 : TC} {st : Bool} {g : Nat → Nat} {i b y : Nat} (hP : PR g P) (hv : Vg g) (hy : y < 14) (hi : i < kL g) (hb : b < kL g) (h1 : oeN g i y = some (oeD g i y)) (h2 : oeN g b y = some (oeD g b y)) (h3 : oeD g i y < 14) (h4 : oeD g b y < 14) : zX l G yX6_isEarlierStep cX6_isEarlierStep 6 (some .boolean) 2 47 0 0 [.ref (ad 0 0), .int (nI i), .int (nI b), .int (nI y)] (cls G ad q P Pd Ps kp HP hn t tn T W1 W2 st) (zF (some (.int (bI (erB g y i b)))) (cls G ad q P Pd Ps kp HP hn t tn T W1 W2 st)) := by
  refine zj_startF RX6 (by decide +kernel) rfl rfl rfl (bs := [[((ad 0 0), .inr (6, [.ref (ad 1 0), .ref (ad 2 0), .ref (ad 3 0), .int (bI kp), .ref (ad 4 0), .ref (ad 5 0), .ref (ad 6 0), .ref (ad 7 0), .int (bI st)]))], plan G (ad 1) P, plan G (ad 2) Pd, plan G (ad 3) Ps, hist G (ad 4) q HP hn, text G (ad 5 0) (ad 5 1) t tn T, totT G (ad 6) W1, totT G (ad 7) W2]) rfl (lo := [some (.ref (ad 0 0)), some (.int (nI i)), some (.int (nI b)), some (.int (nI y)), none, none]) rfl ?_
  intro p0 e0 s0 m0 args0 below0 meth0 c0 A0 C hr hlocks
  have hk := hv.1
  have q1 := V_cell hv hi (c := 2) (by decide)
  have q2 := V_cell hv hb (c := 2) (by decide)
  refine zj_aload_n (pc := 0) C dX6_isEarlierStep_0 rfl ?_
  refine gf_X6_0 (pc := 1) C dX6_isEarlierStep_1 0 rfl ?_
  refine zj_iload_n (pc := 4) C dX6_isEarlierStep_4 rfl ?_
  refine zj_iload_n (pc := 5) C dX6_isEarlierStep_5 rfl ?_
  refine zj_callP1 (pc := 6) C kv_X6_199 (m_X1_otherEnd hP hv (by omega) hy) dX6_isEarlierStep_6 1 rfl rfl rfl rfl rfl rfl rfl ⟨0, rfl⟩ rfl rfl ?_
  refine zj_top (x' := nI (oeD g i y)) (by rw [h1]; rfl) ?_
  refine zj_istore (pc := 9) C dX6_isEarlierStep_9 (Nat.le_of_ble_eq_true rfl) ?_
  refine zj_aload_n (pc := 11) C dX6_isEarlierStep_11 rfl ?_
  refine gf_X6_0 (pc := 12) C dX6_isEarlierStep_12 0 rfl ?_
  refine zj_iload_n (pc := 15) C dX6_isEarlierStep_15 rfl ?_
  refine zj_iload_n (pc := 16) C dX6_isEarlierStep_16 rfl ?_
  refine zj_callP1 (pc := 17) C kv_X6_199 (m_X1_otherEnd hP hv (by omega) hy) dX6_isEarlierStep_17 1 rfl rfl rfl rfl rfl rfl rfl ⟨0, rfl⟩ rfl rfl ?_
  refine zj_top (x' := nI (oeD g b y)) (by rw [h2]; rfl) ?_
  refine zj_istore (pc := 20) C dX6_isEarlierStep_20 (Nat.le_of_ble_eq_true rfl) ?_
  refine zj_iload (pc := 22) C dX6_isEarlierStep_22 rfl ?_
  refine zj_iload (pc := 24) C dX6_isEarlierStep_24 rfl ?_
  refine zj_icmp_eq (pc := 26) 42 C dX6_isEarlierStep_26 (by decide) (fun c_26 => ?_) (fun c_26 => ?_)
  · refine zj_aload_n (pc := 42) C dX6_isEarlierStep_42 rfl ?_
    refine gf_X6_0 (pc := 43) C dX6_isEarlierStep_43 0 rfl ?_
    refine zj_iload_n (pc := 46) C dX6_isEarlierStep_46 rfl ?_
    refine zj_iconst (pc := 47) (v := 2) C dX6_isEarlierStep_47 (by decide) ?_
    refine zj_callP1 (pc := 48) C kv_X6_152 (m_X1_laneCell hP hv hi (c := 2) (by decide)) dX6_isEarlierStep_48 1 rfl rfl rfl rfl rfl rfl rfl ⟨0, rfl⟩ rfl rfl ?_
    refine zj_top (x' := nI (lnC g i 2)) rfl ?_
    refine zj_aload_n (pc := 51) C dX6_isEarlierStep_51 rfl ?_
    refine gf_X6_0 (pc := 52) C dX6_isEarlierStep_52 0 rfl ?_
    refine zj_iload_n (pc := 55) C dX6_isEarlierStep_55 rfl ?_
    refine zj_iconst (pc := 56) (v := 2) C dX6_isEarlierStep_56 (by decide) ?_
    refine zj_callP1 (pc := 57) C kv_X6_152 (m_X1_laneCell hP hv hb (c := 2) (by decide)) dX6_isEarlierStep_57 1 rfl rfl rfl rfl rfl rfl rfl ⟨0, rfl⟩ rfl rfl ?_
    refine zj_top (x' := nI (lnC g b 2)) rfl ?_
    refine zm_icmp_ge_0 (pc := 60) C dX6_isEarlierStep_60 dX6_isEarlierStep_63 dX6_isEarlierStep_64 dX6_isEarlierStep_67 ?_
    refine zj_zretF C hr hlocks dX6_isEarlierStep_68 ?_ rfl
    rw [nI_eq (by omega) (by omega)] at c_26
    rw [erB, if_pos c_26, show decide (nI (lnC g b 2) ≤ nI (lnC g i 2)) = decide (lnC g b 2 ≤ lnC g i 2) from decide_eq_decide.mpr (nI_leI (by omega) (by omega))]
    by_cases h : lnC g i 2 < lnC g b 2
    · simp [h, Nat.not_le.mpr h]
    · simp [h, Nat.not_lt.mp h]
  · refine zj_iload (pc := 29) C dX6_isEarlierStep_29 rfl ?_
    refine zj_iload (pc := 31) C dX6_isEarlierStep_31 rfl ?_
    refine zm_icmp_ge_0 (pc := 33) C dX6_isEarlierStep_33 dX6_isEarlierStep_36 dX6_isEarlierStep_37 dX6_isEarlierStep_40 ?_
    refine zj_zretF C hr hlocks dX6_isEarlierStep_41 ?_ rfl
    rw [nI_eq (by omega) (by omega)] at c_26
    rw [erB, if_neg c_26, show decide (nI (oeD g b y) ≤ nI (oeD g i y)) = decide (oeD g b y ≤ oeD g i y) from decide_eq_decide.mpr (nI_leI (by omega) (by omega))]
    by_cases h : oeD g i y < oeD g b y
    · simp [h, Nat.not_le.mpr h]
    · simp [h, Nat.not_lt.mp h]
set_option maxRecDepth 100000 in
set_option maxHeartbeats 4000000 in
theorem m_X6_firstStep {l : Launch} {G : GG} {ad : Nat → Nat → Nat} {q : Nat → Nat → Nat} {P Pd Ps : PC} {kp : Bool} {HP : Nat → PC} {hn : Nat} {t : Nat → Nat} {tn : Nat} {T : T7} {W1 W2 : TC} {st : Bool} {g : Nat → Nat} {y al : Nat} (hP : PR g P) (hv : Vg g) (hW1 : TBT W1) (hy : y < 14) (hal : al < kA g) : zX l G yX6_firstStep cX6_firstStep 5 (some .int) 5 116 0 0 [.ref (ad 0 0), .int (nI y), .int (nI al)] (cls G ad q P Pd Ps kp HP hn t tn T W1 W2 st) (zF (some (.int (optI (fsN g W1 y al 24)))) (cls G ad q P Pd Ps kp HP hn t tn T W1 W2 st)) := by
  refine zj_startF RX6 (by decide +kernel) rfl rfl rfl (bs := [[((ad 0 0), .inr (6, [.ref (ad 1 0), .ref (ad 2 0), .ref (ad 3 0), .int (bI kp), .ref (ad 4 0), .ref (ad 5 0), .ref (ad 6 0), .ref (ad 7 0), .int (bI st)]))], plan G (ad 1) P, plan G (ad 2) Pd, plan G (ad 3) Ps, hist G (ad 4) q HP hn, text G (ad 5 0) (ad 5 1) t tn T, totT G (ad 6) W1, totT G (ad 7) W2]) rfl (lo := [some (.ref (ad 0 0)), some (.int (nI y)), some (.int (nI al)), none, none]) rfl ?_
  intro p0 e0 s0 m0 args0 below0 meth0 c0 A0 C hr hlocks
  refine zj_bipush (pc := 0) (v := (-5)) C dX6_firstStep_0 (by decide) ?_
  refine zj_istore_n (pc := 2) C dX6_firstStep_2 (Nat.le_of_ble_eq_true rfl) ?_
  refine zj_iconst (pc := 3) (v := 0) C dX6_firstStep_3 (by decide) ?_
  refine zj_istore (pc := 4) C dX6_firstStep_4 (Nat.le_of_ble_eq_true rfl) ?_
  refine zj_keep [true, true, true, true, true] ?_
  refine zj_loopW (σ := Nat) (fun x => x ≤ 24) (fun x => 24 - x) (fun x => [[((ad 0 0), .inr (6, [.ref (ad 1 0), .ref (ad 2 0), .ref (ad 3 0), .int (bI kp), .ref (ad 4 0), .ref (ad 5 0), .ref (ad 6 0), .ref (ad 7 0), .int (bI st)]))], plan G (ad 1) P, plan G (ad 2) Pd, plan G (ad 3) Ps, hist G (ad 4) q HP hn, text G (ad 5 0) (ad 5 1) t tn T, totT G (ad 6) W1, totT G (ad 7) W2]) (fun x => [some (.ref (ad 0 0)), some (.int (nI y)), some (.int (nI al)), some (.int (optI (fsN g W1 y al (x)))), some (.int (nI (x)))]) ?_ 0 (Nat.zero_le _)
  intro i hi ih
  have hfb : ∀ b, fsN g W1 y al i = some b → b < 2 ^ 31 := fun b h => by have := (fsN_s h).2; omega
  refine zj_iload (pc := 6) C dX6_firstStep_6 rfl ?_
  refine zj_bipush (pc := 8) (v := 24) C dX6_firstStep_8 (by decide) ?_
  refine zj_icmp_ge (pc := 10) 57 C dX6_firstStep_10 (by decide) (fun c_10 => ?_) (fun c_10 => ?_)
  · refine zj_iload_n (pc := 57) C dX6_firstStep_57 rfl ?_
    refine zj_iretF C hr hlocks dX6_firstStep_58 ?_ rfl
    rw [show i = 24 from Nat.le_antisymm hi (zle c_10 (by omega))]
  · have hlt : i < 24 := zlt c_10 (by omega)
    refine zj_aload_n (pc := 13) C dX6_firstStep_13 rfl ?_
    refine gf_X6_6 (pc := 14) C dX6_firstStep_14 0 rfl ?_
    refine zj_aload_n (pc := 17) C dX6_firstStep_17 rfl ?_
    refine gf_X6_0 (pc := 18) C dX6_firstStep_18 0 rfl ?_
    refine zj_iload (pc := 21) C dX6_firstStep_21 rfl ?_
    refine zj_iload_n (pc := 23) C dX6_firstStep_23 rfl ?_
    refine zj_iload_n (pc := 24) C dX6_firstStep_24 rfl ?_
    refine zj_callP2 (pc := 25) C kv_X6_258 (m_X4_isStep hW1.1 hP hv (by omega) hy hal) dX6_firstStep_25 6 1 rfl rfl rfl rfl rfl rfl rfl rfl rfl ⟨0, rfl⟩ rfl rfl ?_
    refine zj_ifb_eq (pc := 28) 51 C dX6_firstStep_28 (by decide) (fun c_28 => ?_) (fun c_28 => ?_)
    · refine zj_iinc (pc := 51) (v := nI (i + 1)) C dX6_firstStep_51 rfl (nI_1 _) ?_
      refine zj_goto (pc := 54) (tgt := 6) C dX6_firstStep_54 (by decide) ?_
      exact zj_loc (lo' := [some (.ref (ad 0 0)), some (.int (nI y)), some (.int (nI al)), some (.int (optI (fsN g W1 y al (i + 1)))), some (.int (nI (i + 1)))]) (by rw [fsN_f c_28]; rfl) (ih (i + 1) hlt (by omega))
    · refine zj_iload_n (pc := 31) C dX6_firstStep_31 rfl ?_
      refine zj_bipush (pc := 32) (v := (-5)) C dX6_firstStep_32 (by decide) ?_
      refine zj_icmp_eq (pc := 34) 48 C dX6_firstStep_34 (by decide) (fun c_34 => ?_) (fun c_34 => ?_)
      · have hnone : fsN g W1 y al i = none := (optI_5 hfb).mp c_34
        refine zj_iload (pc := 48) C dX6_firstStep_48 rfl ?_
        refine zj_istore_n (pc := 50) C dX6_firstStep_50 (Nat.le_of_ble_eq_true rfl) ?_
        refine zj_iinc (pc := 51) (v := nI (i + 1)) C dX6_firstStep_51 rfl (nI_1 _) ?_
        refine zj_goto (pc := 54) (tgt := 6) C dX6_firstStep_54 (by decide) ?_
        exact zj_loc (lo' := [some (.ref (ad 0 0)), some (.int (nI y)), some (.int (nI al)), some (.int (optI (fsN g W1 y al (i + 1)))), some (.int (nI (i + 1)))]) (by rw [fsN_t0 c_28 hnone]; rfl) (ih (i + 1) hlt (by omega))
      · obtain ⟨b0, hsome⟩ : ∃ b0, fsN g W1 y al i = some b0 := by
          cases h : fsN g W1 y al i with
          | none => exact absurd (by rw [h]; rfl) c_34
          | some b0 => exact ⟨b0, rfl⟩
        obtain ⟨o1, o2, o3⟩ := stW_oe hv c_28
        obtain ⟨r1, r2, r3⟩ := stW_oe hv (fsN_s hsome).1
        refine zj_loc (lo' := [some (.ref (ad 0 0)), some (.int (nI y)), some (.int (nI al)), some (.int (nI b0)), some (.int (nI i))]) (by rw [hsome]; rfl) ?_
        refine zj_aload_n (pc := 37) C dX6_firstStep_37 rfl ?_
        refine zj_iload (pc := 38) C dX6_firstStep_38 rfl ?_
        refine zj_iload_n (pc := 40) C dX6_firstStep_40 rfl ?_
        refine zj_iload_n (pc := 41) C dX6_firstStep_41 rfl ?_
        refine zj_callPA (pc := 42) C kv_X6_262 (m_X6_isEarlierStep hP hv hy o3 r3 o1 r1 o2 r2) dX6_firstStep_42 [0, 1, 2, 3, 4, 5, 6, 7] [] rfl rfl rfl rfl rfl rfl rfl rfl ⟨0, rfl⟩ rfl rfl ?_
        refine zj_ifb_eq (pc := 45) 51 C dX6_firstStep_45 (by decide) (fun c_45 => ?_) (fun c_45 => ?_)
        · refine zj_iinc (pc := 51) (v := nI (i + 1)) C dX6_firstStep_51 rfl (nI_1 _) ?_
          refine zj_goto (pc := 54) (tgt := 6) C dX6_firstStep_54 (by decide) ?_
          exact zj_loc (lo' := [some (.ref (ad 0 0)), some (.int (nI y)), some (.int (nI al)), some (.int (optI (fsN g W1 y al (i + 1)))), some (.int (nI (i + 1)))]) (by rw [fsN_t1 c_28 hsome, c_45]; rfl) (ih (i + 1) hlt (by omega))
        · refine zj_iload (pc := 48) C dX6_firstStep_48 rfl ?_
          refine zj_istore_n (pc := 50) C dX6_firstStep_50 (Nat.le_of_ble_eq_true rfl) ?_
          refine zj_iinc (pc := 51) (v := nI (i + 1)) C dX6_firstStep_51 rfl (nI_1 _) ?_
          refine zj_goto (pc := 54) (tgt := 6) C dX6_firstStep_54 (by decide) ?_
          exact zj_loc (lo' := [some (.ref (ad 0 0)), some (.int (nI y)), some (.int (nI al)), some (.int (optI (fsN g W1 y al (i + 1)))), some (.int (nI (i + 1)))]) (by rw [fsN_t1 c_28 hsome, if_pos c_45]; rfl) (ih (i + 1) hlt (by omega))
set_option maxRecDepth 100000 in
set_option maxHeartbeats 4000000 in
theorem m_X6_stepEnds {l : Launch} {G : GG} {ad : Nat → Nat → Nat} {q : Nat → Nat → Nat} {P Pd Ps : PC} {kp : Bool} {HP : Nat → PC} {hn : Nat} {t : Nat → Nat} {tn : Nat} {T : T7} {W1 W2 : TC} {st : Bool} {g : Nat → Nat} {y al : Nat} (hP : PR g P) (hv : Vg g) (hW1 : TBT W1) (hy : y < 14) (hal : al < kA g) : zX l G yX6_stepEnds cX6_stepEnds 5 (some .int) 5 116 0 0 [.ref (ad 0 0), .int (nI y), .int (nI al)] (cls G ad q P Pd Ps kp HP hn t tn T W1 W2 st) (zF (some (.int (nI (seN g W1 y al 24)))) (cls G ad q P Pd Ps kp HP hn t tn T W1 W2 st)) := by
  refine zj_startF RX6 (by decide +kernel) rfl rfl rfl (bs := [[((ad 0 0), .inr (6, [.ref (ad 1 0), .ref (ad 2 0), .ref (ad 3 0), .int (bI kp), .ref (ad 4 0), .ref (ad 5 0), .ref (ad 6 0), .ref (ad 7 0), .int (bI st)]))], plan G (ad 1) P, plan G (ad 2) Pd, plan G (ad 3) Ps, hist G (ad 4) q HP hn, text G (ad 5 0) (ad 5 1) t tn T, totT G (ad 6) W1, totT G (ad 7) W2]) rfl (lo := [some (.ref (ad 0 0)), some (.int (nI y)), some (.int (nI al)), none, none]) rfl ?_
  intro p0 e0 s0 m0 args0 below0 meth0 c0 A0 C hr hlocks
  refine zj_iconst (pc := 0) (v := 0) C dX6_stepEnds_0 (by decide) ?_
  refine zj_istore_n (pc := 1) C dX6_stepEnds_1 (Nat.le_of_ble_eq_true rfl) ?_
  refine zj_iconst (pc := 2) (v := 0) C dX6_stepEnds_2 (by decide) ?_
  refine zj_istore (pc := 3) C dX6_stepEnds_3 (Nat.le_of_ble_eq_true rfl) ?_
  refine zj_keep [true, true, true, true, true] ?_
  refine zj_loopW (σ := Nat) (fun x => x ≤ 24) (fun x => 24 - x) (fun x => [[((ad 0 0), .inr (6, [.ref (ad 1 0), .ref (ad 2 0), .ref (ad 3 0), .int (bI kp), .ref (ad 4 0), .ref (ad 5 0), .ref (ad 6 0), .ref (ad 7 0), .int (bI st)]))], plan G (ad 1) P, plan G (ad 2) Pd, plan G (ad 3) Ps, hist G (ad 4) q HP hn, text G (ad 5 0) (ad 5 1) t tn T, totT G (ad 6) W1, totT G (ad 7) W2]) (fun x => [some (.ref (ad 0 0)), some (.int (nI y)), some (.int (nI al)), some (.int (nI (seN g W1 y al (x)))), some (.int (nI (x)))]) ?_ 0 (Nat.zero_le _)
  intro i hi ih
  refine zj_iload (pc := 5) C dX6_stepEnds_5 rfl ?_
  refine zj_bipush (pc := 7) (v := 24) C dX6_stepEnds_7 (by decide) ?_
  refine zj_icmp_ge (pc := 9) 51 C dX6_stepEnds_9 (by decide) (fun c_9 => ?_) (fun c_9 => ?_)
  · refine zj_iload_n (pc := 51) C dX6_stepEnds_51 rfl ?_
    refine zj_iretF C hr hlocks dX6_stepEnds_52 ?_ rfl
    rw [show i = 24 from Nat.le_antisymm hi (zle c_9 (by omega))]
  · have hlt : i < 24 := zlt c_9 (by omega)
    refine zj_aload_n (pc := 12) C dX6_stepEnds_12 rfl ?_
    refine gf_X6_6 (pc := 13) C dX6_stepEnds_13 0 rfl ?_
    refine zj_aload_n (pc := 16) C dX6_stepEnds_16 rfl ?_
    refine gf_X6_0 (pc := 17) C dX6_stepEnds_17 0 rfl ?_
    refine zj_iload (pc := 20) C dX6_stepEnds_20 rfl ?_
    refine zj_iload_n (pc := 22) C dX6_stepEnds_22 rfl ?_
    refine zj_iload_n (pc := 23) C dX6_stepEnds_23 rfl ?_
    refine zj_callP2 (pc := 24) C kv_X6_258 (m_X4_isStep hW1.1 hP hv (by omega) hy hal) dX6_stepEnds_24 6 1 rfl rfl rfl rfl rfl rfl rfl rfl rfl ⟨0, rfl⟩ rfl rfl ?_
    refine zj_ifb_eq (pc := 27) 45 C dX6_stepEnds_27 (by decide) (fun c_27 => ?_) (fun c_27 => ?_)
    · refine zj_iinc (pc := 45) (v := nI (i + 1)) C dX6_stepEnds_45 rfl (nI_1 _) ?_
      refine zj_goto (pc := 48) (tgt := 5) C dX6_stepEnds_48 (by decide) ?_
      exact zj_loc (lo' := [some (.ref (ad 0 0)), some (.int (nI y)), some (.int (nI al)), some (.int (nI (seN g W1 y al (i + 1)))), some (.int (nI (i + 1)))]) (by rw [seN_f c_27]; rfl) (ih (i + 1) hlt (by omega))
    · obtain ⟨o1, o2, o3⟩ := stW_oe hv c_27
      refine zj_iload_n (pc := 30) C dX6_stepEnds_30 rfl ?_
      refine zj_iconst (pc := 31) (v := 1) C dX6_stepEnds_31 (by decide) ?_
      refine zj_aload_n (pc := 32) C dX6_stepEnds_32 rfl ?_
      refine gf_X6_0 (pc := 33) C dX6_stepEnds_33 0 rfl ?_
      refine zj_iload (pc := 36) C dX6_stepEnds_36 rfl ?_
      refine zj_iload_n (pc := 38) C dX6_stepEnds_38 rfl ?_
      refine zj_callP1 (pc := 39) C kv_X6_199 (m_X1_otherEnd hP hv (by omega) hy) dX6_stepEnds_39 1 rfl rfl rfl rfl rfl rfl rfl ⟨0, rfl⟩ rfl rfl ?_
      refine zj_top (x' := nI (oeD g i y)) (by rw [o1]; rfl) ?_
      refine zj_ishl (pc := 42) C dX6_stepEnds_42 ?_
      refine zj_ior (pc := 43) C dX6_stepEnds_43 ?_
      refine zj_top (x' := nI (seN g W1 y al i ||| 2 ^ oeD g i y)) (by rw [nI_shl (by omega), nI_or]) ?_
      refine zj_istore_n (pc := 44) C dX6_stepEnds_44 (Nat.le_of_ble_eq_true rfl) ?_
      refine zj_iinc (pc := 45) (v := nI (i + 1)) C dX6_stepEnds_45 rfl (nI_1 _) ?_
      refine zj_goto (pc := 48) (tgt := 5) C dX6_stepEnds_48 (by decide) ?_
      exact zj_loc (lo' := [some (.ref (ad 0 0)), some (.int (nI y)), some (.int (nI al)), some (.int (nI (seN g W1 y al (i + 1)))), some (.int (nI (i + 1)))]) (by rw [seN_t c_27]; rfl) (ih (i + 1) hlt (by omega))
def shS (g : Nat → Nat) (W : TC) (x al : Nat) : Nat := W.1 4 x (alC g al 0) + alC g al 1
set_option maxRecDepth 100000 in
set_option maxHeartbeats 4000000 in
theorem m_X6_shortestSum {l : Launch} {G : GG} {ad : Nat → Nat → Nat} {q : Nat → Nat → Nat} {P Pd Ps : PC} {kp : Bool} {HP : Nat → PC} {hn : Nat} {t : Nat → Nat} {tn : Nat} {T : T7} {W1 W2 : TC} {st : Bool} {g : Nat → Nat} {y al : Nat} (hP : PR g P) (hv : Vg g) (hy : y < 14) (hal : al < kA g) : zX l G yX6_shortestSum cX6_shortestSum 3 (some .int) 2 47 0 0 [.ref (ad 0 0), .int (nI y), .int (nI al)] (cls G ad q P Pd Ps kp HP hn t tn T W1 W2 st) (zF (some (.int (nI (shS g W1 y al)))) (cls G ad q P Pd Ps kp HP hn t tn T W1 W2 st)) := by
  refine zj_startF RX6 (by decide +kernel) rfl rfl rfl (bs := [[((ad 0 0), .inr (6, [.ref (ad 1 0), .ref (ad 2 0), .ref (ad 3 0), .int (bI kp), .ref (ad 4 0), .ref (ad 5 0), .ref (ad 6 0), .ref (ad 7 0), .int (bI st)]))], plan G (ad 1) P, plan G (ad 2) Pd, plan G (ad 3) Ps, hist G (ad 4) q HP hn, text G (ad 5 0) (ad 5 1) t tn T, totT G (ad 6) W1, totT G (ad 7) W2]) rfl (lo := [some (.ref (ad 0 0)), some (.int (nI y)), some (.int (nI al))]) rfl ?_
  intro p0 e0 s0 m0 args0 below0 meth0 c0 A0 C hr hlocks
  obtain ⟨v0, v1, v2⟩ := hv.2.2.2.2 al hal
  refine zj_aload_n (pc := 0) C dX6_shortestSum_0 rfl ?_
  refine gf_X6_6 (pc := 1) C dX6_shortestSum_1 0 rfl ?_
  refine zj_iconst (pc := 4) (v := 4) C dX6_shortestSum_4 (by decide) ?_
  refine zj_iload_n (pc := 5) C dX6_shortestSum_5 rfl ?_
  refine zj_aload_n (pc := 6) C dX6_shortestSum_6 rfl ?_
  refine gf_X6_0 (pc := 7) C dX6_shortestSum_7 0 rfl ?_
  refine zj_iload_n (pc := 10) C dX6_shortestSum_10 rfl ?_
  refine zj_iconst (pc := 11) (v := 0) C dX6_shortestSum_11 (by decide) ?_
  refine zj_callP1 (pc := 12) C kv_X6_162 (m_X1_alleyCell hP hv hal (c := 0) (by decide)) dX6_shortestSum_12 1 rfl rfl rfl rfl rfl rfl rfl ⟨0, rfl⟩ rfl rfl ?_
  refine zj_top (x' := nI (alC g al 0)) rfl ?_
  refine zj_callP1 (pc := 15) C kv_X6_180 (m_X4_way (d := 4) (by decide) hy v0) dX6_shortestSum_15 6 rfl rfl rfl rfl rfl rfl rfl ⟨0, rfl⟩ rfl rfl ?_
  refine zj_aload_n (pc := 18) C dX6_shortestSum_18 rfl ?_
  refine gf_X6_0 (pc := 19) C dX6_shortestSum_19 0 rfl ?_
  refine zj_iload_n (pc := 22) C dX6_shortestSum_22 rfl ?_
  refine zj_iconst (pc := 23) (v := 1) C dX6_shortestSum_23 (by decide) ?_
  refine zj_callP1 (pc := 24) C kv_X6_162 (m_X1_alleyCell hP hv hal (c := 1) (by decide)) dX6_shortestSum_24 1 rfl rfl rfl rfl rfl rfl rfl ⟨0, rfl⟩ rfl rfl ?_
  refine zj_iadd (pc := 27) C dX6_shortestSum_27 ?_
  refine zj_iretF C hr hlocks dX6_shortestSum_28 ?_ rfl
  exact nI_add _ _
set_option maxRecDepth 100000 in
set_option maxHeartbeats 4000000 in
theorem m_X6_hasArrived {l : Launch} {G : GG} {ad : Nat → Nat → Nat} {q : Nat → Nat → Nat} {P Pd Ps : PC} {kp : Bool} {HP : Nat → PC} {hn : Nat} {t : Nat → Nat} {tn : Nat} {T : T7} {W1 W2 : TC} {st : Bool} {g : Nat → Nat} {y al : Nat} (hP : PR g P) (hv : Vg g) (hW1 : TBT W1) (hy : y < 14) (hal : al < kA g) : zX l G yX6_hasArrived cX6_hasArrived 3 (some .boolean) 2 45 0 0 [.ref (ad 0 0), .int (nI y), .int (nI al)] (cls G ad q P Pd Ps kp HP hn t tn T W1 W2 st) (zF (some (.int (bI (decide (W1.2.2.2.2.1 (y * 12 + al) = 1) && decide (y = alC g al 0))))) (cls G ad q P Pd Ps kp HP hn t tn T W1 W2 st)) := by
  refine zj_startF RX6 (by decide +kernel) rfl rfl rfl (bs := [[((ad 0 0), .inr (6, [.ref (ad 1 0), .ref (ad 2 0), .ref (ad 3 0), .int (bI kp), .ref (ad 4 0), .ref (ad 5 0), .ref (ad 6 0), .ref (ad 7 0), .int (bI st)]))], plan G (ad 1) P, plan G (ad 2) Pd, plan G (ad 3) Ps, hist G (ad 4) q HP hn, text G (ad 5 0) (ad 5 1) t tn T, totT G (ad 6) W1, totT G (ad 7) W2]) rfl (lo := [some (.ref (ad 0 0)), some (.int (nI y)), some (.int (nI al))]) rfl ?_
  intro p0 e0 s0 m0 args0 below0 meth0 c0 A0 C hr hlocks
  have hk := hv.2.1
  obtain ⟨v0, v1, v2⟩ := hv.2.2.2.2 al hal
  have hru := hW1.1.2.2.2.2 (y * 12 + al) (by omega)
  refine zj_aload_n (pc := 0) C dX6_hasArrived_0 rfl ?_
  refine gf_X6_6 (pc := 1) C dX6_hasArrived_1 0 rfl ?_
  refine zj_iload_n (pc := 4) C dX6_hasArrived_4 rfl ?_
  refine zj_iload_n (pc := 5) C dX6_hasArrived_5 rfl ?_
  refine zj_callP1 (pc := 6) C kv_X6_193 (m_X4_ruleFor hy (by omega)) dX6_hasArrived_6 6 rfl rfl rfl rfl rfl rfl rfl ⟨0, rfl⟩ rfl rfl ?_
  refine zj_top (x' := nI (W1.2.2.2.2.1 (y * 12 + al))) rfl ?_
  refine zj_iconst (pc := 9) (v := 1) C dX6_hasArrived_9 (by decide) ?_
  refine zj_icmp_ne (pc := 10) 30 C dX6_hasArrived_10 (by decide) (fun c_10 => ?_) (fun c_10 => ?_)
  · refine zj_iconst (pc := 30) (v := 0) C dX6_hasArrived_30 (by decide) ?_
    refine zj_zretF C hr hlocks dX6_hasArrived_31 ?_ rfl
    rw [show (1 : Int32) = nI 1 from rfl, nI_eq (by omega) (by omega)] at c_10
    simp [c_10, bI]
  · refine zj_iload_n (pc := 13) C dX6_hasArrived_13 rfl ?_
    refine zj_aload_n (pc := 14) C dX6_hasArrived_14 rfl ?_
    refine gf_X6_0 (pc := 15) C dX6_hasArrived_15 0 rfl ?_
    refine zj_iload_n (pc := 18) C dX6_hasArrived_18 rfl ?_
    refine zj_iconst (pc := 19) (v := 0) C dX6_hasArrived_19 (by decide) ?_
    refine zj_callP1 (pc := 20) C kv_X6_162 (m_X1_alleyCell hP hv hal (c := 0) (by decide)) dX6_hasArrived_20 1 rfl rfl rfl rfl rfl rfl rfl ⟨0, rfl⟩ rfl rfl ?_
    refine zj_top (x' := nI (alC g al 0)) rfl ?_
    refine zm_icmp_ne_0 (pc := 23) C dX6_hasArrived_23 dX6_hasArrived_26 dX6_hasArrived_27 dX6_hasArrived_30 ?_
    refine zj_zretF C hr hlocks dX6_hasArrived_31 ?_ rfl
    rw [show (1 : Int32) = nI 1 from rfl, nI_eq (by omega) (by omega)] at c_10
    simp [c_10, nI_eq (show y < 2 ^ 31 by omega) (show alC g al 0 < 2 ^ 31 by omega)]
