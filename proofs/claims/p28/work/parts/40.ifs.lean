/-! WHAT IF -/
/-- the answer is this, and of the trial's cells only the bounds are known -/
abbrev zE (v : Option Value) (f : TC → va_W) : Option Value → va_W → Prop := fun v' w' => v' = v ∧ ∃ W2 : TC, TBT W2 ∧ w' = f W2
def wW (g : Nat → Nat) (D : Nat → Nat → Nat → Nat) (Wt : TC) : TC := (D, dsV D, gaV D, suI Wt.2.2.2.1 (tSg g D) (kA g), suI Wt.2.2.2.2.1 (tRg g D) (kA g), kA g)
def wD (g : Nat → Nat) (W : TC) (lo : Nat) : Nat → Nat → Nat → Nat := WOI g W.1 (lnC g lo 3) lo (kL g)
theorem wD_WB {g : Nat → Nat} (hv : Vg g) {W : TC} (h : TBT W) {lo : Nat} : WB (wD g W lo) := WOI_WB hv h.1.1 (Nat.le_refl _)
theorem wW_TBT {g : Nat → Nat} (hv : Vg g) {D : Nat → Nat → Nat → Nat} (hD : WB D) {W : TC} (h : TBT W) : TBT (wW g D W) := ⟨TBd_suI (g := g) (di := W.2.1) (ga := W.2.2.1) ⟨hD, h.1.2⟩, hv.2.1⟩
/-- how many pairs change so from these sums to those -/
def cF (k c : Nat) (S1 : Nat → Nat) (F : Nat → Nat → Nat) : Nat := sumB (fun _ => true) (fun x => cntB (fun al => chB c (S1 (x * 12 + al)) (F al x)) k) 14
theorem ccN_c {k c : Nat} {S1 S : Nat → Nat} {F : Nat → Nat → Nat} (hk : k ≤ 12) : ccN k c S1 (suI S F k) = cF k c S1 F := by
  refine sumB_congr (fun _ _ => rfl) (fun x _ => cntB_congr fun al hal => ?_)
  show chB c _ (suI S F k (x * 12 + al)) = _
  unfold suI
  rw [show (x * 12 + al) % 12 = al by omega, show (x * 12 + al) / 12 = x by omega, if_pos hal]
theorem ccN_le {k c : Nat} {S1 S2 : Nat → Nat} (hk : k ≤ 12) : ccN k c S1 S2 ≤ 168 := sumB_le _ _ 12 (fun x => Nat.le_trans (cntB_le _ _) hk) 14
theorem cF_le {k c : Nat} {S1 : Nat → Nat} {F : Nat → Nat → Nat} (hk : k ≤ 12) : cF k c S1 F ≤ 168 := by rw [← ccN_c (S := S1) hk]; exact ccN_le hk
theorem w_le2 {w : Int32} (h1 : ¬ w < 0) (h2 : w ≤ 2) : ∃ j, j ≤ 2 ∧ w = nI j := by
  rcases sw_2 w with h | h | h | h
  · exact ⟨0, by decide, h⟩
  · exact ⟨1, by decide, h⟩
  · exact ⟨2, by decide, h⟩
  · rcases h with h | h
    · exact absurd (Int32.lt_iff_toInt_lt.mpr h) h1
    · exact absurd h2 (Int32.not_le.mpr (Int32.lt_iff_toInt_lt.mpr h))
def aIC (g : Nat → Nat) (W : TC) (x w : Int32) : Int32 := if tHas (nI (kL g)) x then (if w < 0 ∨ 2 < w then -2 else if told g x.toNatClampNeg then nI (cF (kA g) w.toNatClampNeg W.2.2.2.1 (tSg g (wD g W x.toNatClampNeg))) else 0) else -1
/-- the lane that matters the most of those below i, with its counts -/
def wkB (r : Option Nat × Nat × Nat) (lo gr : Nat) : Bool := decide (r.2.1 < lo) || (decide (lo = r.2.1) && decide (r.2.2 < gr))
def wkI (g : Nat → Nat) (W : TC) : Nat → Option Nat × Nat × Nat
  | 0 => (none, 0, 0)
  | i + 1 => if decide (i < kL g) && told g i then (if wkB (wkI g W i) (cF (kA g) 0 W.2.2.2.1 (tSg g (wD g W i))) (cF (kA g) 1 W.2.2.2.1 (tSg g (wD g W i))) then (some i, cF (kA g) 0 W.2.2.2.1 (tSg g (wD g W i)), cF (kA g) 1 W.2.2.2.1 (tSg g (wD g W i))) else wkI g W i) else wkI g W i
theorem wkI_f {g : Nat → Nat} {W : TC} {i : Nat} (h : ¬ (i < kL g ∧ told g i = true)) : wkI g W (i + 1) = wkI g W i := by
  show (if decide (i < kL g) && told g i then _ else _) = _
  rw [if_neg (by simpa using h)]
theorem wkI_t {g : Nat → Nat} {W : TC} {i : Nat} (h : i < kL g) (h2 : told g i = true) (h3 : wkB (wkI g W i) (cF (kA g) 0 W.2.2.2.1 (tSg g (wD g W i))) (cF (kA g) 1 W.2.2.2.1 (tSg g (wD g W i))) = true) : wkI g W (i + 1) = (some i, cF (kA g) 0 W.2.2.2.1 (tSg g (wD g W i)), cF (kA g) 1 W.2.2.2.1 (tSg g (wD g W i))) := by
  show (if decide (i < kL g) && told g i then _ else _) = _
  rw [if_pos (by simp [h, h2]), if_pos h3]
theorem wkI_n {g : Nat → Nat} {W : TC} {i : Nat} (h3 : wkB (wkI g W i) (cF (kA g) 0 W.2.2.2.1 (tSg g (wD g W i))) (cF (kA g) 1 W.2.2.2.1 (tSg g (wD g W i))) = false) : wkI g W (i + 1) = wkI g W i := by
  show (if decide (i < kL g) && told g i then _ else _) = _
  rw [h3]
  split <;> rfl
theorem wkI_le {g : Nat → Nat} (hk : kA g ≤ 12) {W : TC} : ∀ i, (wkI g W i).2.1 ≤ 168 ∧ (wkI g W i).2.2 ≤ 168
  | 0 => ⟨Nat.zero_le _, Nat.zero_le _⟩
  | i + 1 => by
    have ih := wkI_le hk (W := W) i
    unfold wkI
    split
    · split
      · exact ⟨cF_le hk, cF_le hk⟩
      · exact ih
    · exact ih

set_option maxRecDepth 100000 in
set_option maxHeartbeats 4000000 in
theorem m_X6_ifClosed {l : Launch} {G : GG} {ad : Nat → Nat → Nat} {q : Nat → Nat → Nat} {P Pd Ps : PC} {kp : Bool} {HP : Nat → PC} {hn : Nat} {t : Nat → Nat} {tn : Nat} {T : T7} {W1 W2 : TC} {st : Bool} {g : Nat → Nat} {x w : Int32} (hP : PR g P) (hv : Vg g) (hW1 : TBT W1) (hW2 : TBT W2) : zX l G yX6_ifClosed cX6_ifClosed 3 (some .int) 7 163 0 0 [.ref (ad 0 0), .int x, .int w] (cls G ad q P Pd Ps kp HP hn t tn T W1 W2 st) (zE (some (.int (aIC g (wK g st W1) x w))) (fun W9 => if tHas (nI (kL g)) x && ((!(decide (w < 0)) && !(decide (2 < w))) && told g x.toNatClampNeg) then cls G ad q P Pd Ps kp HP hn t tn T (wK g st W1) W9 false else cls G ad q P Pd Ps kp HP hn t tn T W1 W9 st)) := by
  refine zj_startF RX6 (by decide +kernel) rfl rfl rfl (bs := [[((ad 0 0), .inr (6, [.ref (ad 1 0), .ref (ad 2 0), .ref (ad 3 0), .int (bI kp), .ref (ad 4 0), .ref (ad 5 0), .ref (ad 6 0), .ref (ad 7 0), .int (bI st)]))], plan G (ad 1) P, plan G (ad 2) Pd, plan G (ad 3) Ps, hist G (ad 4) q HP hn, text G (ad 5 0) (ad 5 1) t tn T, totT G (ad 6) W1, totT G (ad 7) W2]) rfl (lo := [some (.ref (ad 0 0)), some (.int x), some (.int w)]) rfl ?_
  intro p0 e0 s0 m0 args0 below0 meth0 c0 A0 C hr hlocks
  refine zj_aload_n (pc := 0) C dX6_ifClosed_0 rfl ?_
  refine gf_X6_0 (pc := 1) C dX6_ifClosed_1 0 rfl ?_
  refine zj_iload_n (pc := 4) C dX6_ifClosed_4 rfl ?_
  refine zj_callP1 (pc := 5) C kv_X6_71 (m_X1_hasLane hP) dX6_ifClosed_5 1 rfl rfl rfl rfl rfl rfl rfl ⟨0, rfl⟩ rfl rfl ?_
  refine zj_ifb_ne (pc := 8) 13 C dX6_ifClosed_8 (by decide) (fun c_8 => ?_) (fun c_8 => ?_)
  · refine zj_iload_n (pc := 13) C dX6_ifClosed_13 rfl ?_
    refine zj_if_lt (pc := 14) 22 C dX6_ifClosed_14 (by decide) (fun c_14 => ?_) (fun c_14 => ?_)
    · refine zj_bipush (pc := 22) (v := (-2)) C dX6_ifClosed_22 (by decide) ?_
      refine zj_iret C hr hlocks dX6_ifClosed_24 ?_
      have hw : ¬ (!(decide (w < 0)) && !(decide (2 < w))) = true := by simp [c_14]
      exact ⟨by unfold aIC; rw [if_pos c_8, if_pos (Or.inl c_14)], W2, hW2, by dsimp only; rw [if_neg (fun h => hw (by simp only [Bool.and_eq_true] at h ⊢; exact h.2.1))]; rfl⟩
    · refine zj_iload_n (pc := 17) C dX6_ifClosed_17 rfl ?_
      refine zj_iconst (pc := 18) (v := 2) C dX6_ifClosed_18 (by decide) ?_
      refine zj_icmp_le (pc := 19) 25 C dX6_ifClosed_19 (by decide) (fun c_19 => ?_) (fun c_19 => ?_)
      · have h99 : ¬ 2 < w := Int32.not_lt.mpr c_19
        have hor : ¬ (w < 0 ∨ 2 < w) := fun h => h.elim c_14 h99
        obtain ⟨x0, hx0, hxx0⟩ := tHas_s (by have := hv.1; omega) c_8
        have hnx0 : x.toNatClampNeg = x0 := by rw [hxx0]; exact nI_clamp (by have := hv.1; omega)
        obtain ⟨w0, hw0, hxw0⟩ := w_le2 c_14 c_19
        have hnw0 : w.toNatClampNeg = w0 := by rw [hxw0]; exact nI_clamp (by omega)
        refine zj_loc (lo' := [some (.ref (ad 0 0)), some (.int (nI x0)), some (.int (nI w0))]) (by rw [hxx0, hxw0]) ?_
        refine zj_aload_n (pc := 25) C dX6_ifClosed_25 rfl ?_
        refine gf_X6_0 (pc := 26) C dX6_ifClosed_26 0 rfl ?_
        refine zj_iload_n (pc := 29) C dX6_ifClosed_29 rfl ?_
        refine zj_callP1 (pc := 30) C kv_X6_149 (m_X1_isTold hP hv hx0) dX6_ifClosed_30 1 rfl rfl rfl rfl rfl rfl rfl ⟨0, rfl⟩ rfl rfl ?_
        refine zj_ifb_ne (pc := 33) 38 C dX6_ifClosed_33 (by decide) (fun c_33 => ?_) (fun c_33 => ?_)
        · refine zj_aload_n (pc := 38) C dX6_ifClosed_38 rfl ?_
          refine zj_callA (pc := 39) C kv_X6_156 (m_X6_workOut hP hv hW1) dX6_ifClosed_39 [0, 1, 2, 3, 4, 5, 6, 7] [] rfl rfl rfl rfl rfl rfl rfl rfl ⟨0, rfl⟩ rfl rfl (fun v w1 hq => ?_)
          obtain ⟨rfl, rfl⟩ := hq
          refine zj_blk (bs' := [[((ad 0 0), .inr (6, [.ref (ad 1 0), .ref (ad 2 0), .ref (ad 3 0), .int (bI kp), .ref (ad 4 0), .ref (ad 5 0), .ref (ad 6 0), .ref (ad 7 0), .int (bI false)]))], plan G (ad 1) P, plan G (ad 2) Pd, plan G (ad 3) Ps, hist G (ad 4) q HP hn, text G (ad 5 0) (ad 5 1) t tn T, totT G (ad 6) (wK g st W1), totT G (ad 7) W2]) rfl ?_
          have hWK : TBT (wK g st W1) := wK_TBT hv hW1
          refine zj_aload_n (pc := 42) C dX6_ifClosed_42 rfl ?_
          refine gf_X6_7 (pc := 43) C dX6_ifClosed_43 0 rfl ?_
          refine zj_aload_n (pc := 46) C dX6_ifClosed_46 rfl ?_
          refine gf_X6_0 (pc := 47) C dX6_ifClosed_47 0 rfl ?_
          refine zj_aload_n (pc := 50) C dX6_ifClosed_50 rfl ?_
          refine gf_X6_6 (pc := 51) C dX6_ifClosed_51 0 rfl ?_
          refine zj_iload_n (pc := 54) C dX6_ifClosed_54 rfl ?_
          refine zj_callF3n (pc := 55) C kv_X6_221 (m_X4_workOutWithout hW2.1 hP hv hWK.1.1 hx0) dX6_ifClosed_55 7 1 6 rfl rfl rfl rfl rfl rfl rfl rfl rfl rfl ⟨0, rfl⟩ rfl rfl ?_
          refine zj_blk (bs' := [[((ad 0 0), .inr (6, [.ref (ad 1 0), .ref (ad 2 0), .ref (ad 3 0), .int (bI kp), .ref (ad 4 0), .ref (ad 5 0), .ref (ad 6 0), .ref (ad 7 0), .int (bI false)]))], plan G (ad 1) P, plan G (ad 2) Pd, plan G (ad 3) Ps, hist G (ad 4) q HP hn, text G (ad 5 0) (ad 5 1) t tn T, totT G (ad 6) (wK g st W1), totT G (ad 7) (wW g (wD g (wK g st W1) x0) W2)]) rfl ?_
          have hTR : TBT (wW g (wD g (wK g st W1) x0) W2) := wW_TBT hv (wD_WB hv hWK) hW2
          refine zj_aload_n (pc := 58) C dX6_ifClosed_58 rfl ?_
          refine zj_iload_n (pc := 59) C dX6_ifClosed_59 rfl ?_
          refine zj_callPA (pc := 60) C kv_X6_225 (m_X6_countChanges hP hv hWK hTR (by omega)) dX6_ifClosed_60 [0, 1, 2, 3, 4, 5, 6, 7] [] rfl rfl rfl rfl rfl rfl rfl rfl ⟨0, rfl⟩ rfl rfl ?_
          refine zj_iret C hr hlocks dX6_ifClosed_63 ?_
          exact ⟨by unfold aIC; rw [if_pos c_8, if_neg hor, hnx0, hnw0, if_pos c_33]; exact congrArg (fun z => some (Value.int (nI z))) (ccN_c hv.2.1), _, hTR, by dsimp only; rw [if_pos (by rw [hnx0]; simp [c_8, c_14, h99, c_33])]; rfl⟩
        · refine zj_iconst (pc := 36) (v := 0) C dX6_ifClosed_36 (by decide) ?_
          refine zj_iret C hr hlocks dX6_ifClosed_37 ?_
          exact ⟨by unfold aIC; rw [if_pos c_8, if_neg hor, hnx0, if_neg (by rw [c_33]; decide)], W2, hW2, by dsimp only; rw [if_neg (by rw [hnx0]; simp [c_33])]; rfl⟩
      · refine zj_bipush (pc := 22) (v := (-2)) C dX6_ifClosed_22 (by decide) ?_
        refine zj_iret C hr hlocks dX6_ifClosed_24 ?_
        have h99 : 2 < w := Int32.not_le.mp c_19
        have hw : ¬ (!(decide (w < 0)) && !(decide (2 < w))) = true := by simp [h99]
        exact ⟨by unfold aIC; rw [if_pos c_8, if_pos (Or.inr h99)], W2, hW2, by dsimp only; rw [if_neg (fun h => hw (by simp only [Bool.and_eq_true] at h ⊢; exact h.2.1))]; rfl⟩
  · refine zj_iconst (pc := 11) (v := (-1)) C dX6_ifClosed_11 (by decide) ?_
    refine zj_iret C hr hlocks dX6_ifClosed_12 ?_
    exact ⟨by unfold aIC; rw [if_neg (by simp [c_8])], W2, hW2, by dsimp only; rw [if_neg (by simp [c_8])]; rfl⟩
