section ZF
variable {p : Program} {l : Launch} {e : Env} {R : Room} {s : State} {m : MethodId} {args : Array Value} {below : List Frame} {meth : Method} {c : Code} {G : GG} {A : Nat → Prop} {cells slots : Nat} {Q : State → Prop} {bs : List va_W} {lo : List (Option Value)} {pc : Nat} {st : List Value} {cc : ByteArray} {own : String} {nL : Nat}
theorem zj_fconst1 (C : zC p s m args c cc own nL G A) (hd : decode cc pc = .ok (.fconst 1, 1)) (k : Zj p l e R s m args below meth c G A cells slots Q bs lo (pc + 1) (.float FP.fconst1 :: st)) : Zj p l e R s m args below meth c G A cells slots Q bs lo pc st := fun H locs ls hP hD hS hl => lv_fconst1 C.1 C.2.1 hd (k H locs ls hP hD hS hl)
theorem zj_i2f {x : Int32} (C : zC p s m args c cc own nL G A) (hd : decode cc pc = .ok (.i2f, 1)) (k : Zj p l e R s m args below meth c G A cells slots Q bs lo (pc + 1) (.float (FP.i2f x) :: st)) : Zj p l e R s m args below meth c G A cells slots Q bs lo pc (.int x :: st) := fun H locs ls hP hD hS hl => lv_i2f C.1 C.2.1 hd (k H locs ls hP hD hS hl)
theorem zj_fdiv {x y : UInt32} (C : zC p s m args c cc own nL G A) (hd : decode cc pc = .ok (.fdiv, 1)) (hne : vf_n32 (FP.fdiv x y)) (k : Zj p l e R s m args below meth c G A cells slots Q bs lo (pc + 1) (.float (FP.fdiv x y) :: st)) : Zj p l e R s m args below meth c G A cells slots Q bs lo pc (.float y :: .float x :: st) := fun H locs ls hP hD hS hl => lv_fdiv C.1 C.2.1 hd hne (k H locs ls hP hD hS hl)
theorem zj_ldcf {i : Nat} {v : UInt32} (C : zC p s m args c cc own nL G A) (hd : decode cc pc = .ok (.ldc i, 2)) (hw : Jvm.Cond.constantFloat own i v ∈ aw) (k : Zj p l e R s m args below meth c G A cells slots Q bs lo (pc + 2) (.float v :: st)) : Zj p l e R s m args below meth c G A cells slots Q bs lo pc st := fun H locs ls hP hD hS hl => lv_ldcf C.1 C.2.1 C.2.2.2.1 (C.2.2.2.2.1 _ hw) hd (k H locs ls hP hD hS hl)
end ZF
def aST (g : Nat → Nat) (W : TC) (x al : Int32) : UInt32 := if isC x && tHas (nI (kA g)) al then (if hsT W x.toNatClampNeg al.toNatClampNeg then (if shS g W x.toNatClampNeg al.toNatClampNeg = 0 then FP.fconst1 else FP.fdiv (FP.i2f (nI (W.2.2.2.1 (x.toNatClampNeg * 12 + al.toNatClampNeg)))) (FP.i2f (nI (shS g W x.toNatClampNeg al.toNatClampNeg)))) else 3212836864) else 3212836864

set_option maxRecDepth 100000 in
set_option maxHeartbeats 4000000 in
theorem m_X6_stretch {l : Launch} {G : GG} {ad : Nat → Nat → Nat} {q : Nat → Nat → Nat} {P Pd Ps : PC} {kp : Bool} {HP : Nat → PC} {hn : Nat} {t : Nat → Nat} {tn : Nat} {T : T7} {W1 W2 : TC} {st : Bool} {g : Nat → Nat} {x al : Int32} (hP : PR g P) (hv : Vg g) (hW1 : TBT W1) : zX l G yX6_stretch cX6_stretch 4 (some .float) 7 163 0 0 [.ref (ad 0 0), .int x, .int al] (cls G ad q P Pd Ps kp HP hn t tn T W1 W2 st) (zF (some (.float (aST g (wK g st W1) x al))) (if isC x && tHas (nI (kA g)) al then cls G ad q P Pd Ps kp HP hn t tn T (wK g st W1) W2 false else cls G ad q P Pd Ps kp HP hn t tn T W1 W2 st)) := by
  refine zj_startF RX6 (by decide +kernel) rfl rfl rfl (bs := [[((ad 0 0), .inr (6, [.ref (ad 1 0), .ref (ad 2 0), .ref (ad 3 0), .int (bI kp), .ref (ad 4 0), .ref (ad 5 0), .ref (ad 6 0), .ref (ad 7 0), .int (bI st)]))], plan G (ad 1) P, plan G (ad 2) Pd, plan G (ad 3) Ps, hist G (ad 4) q HP hn, text G (ad 5 0) (ad 5 1) t tn T, totT G (ad 6) W1, totT G (ad 7) W2]) rfl (lo := [some (.ref (ad 0 0)), some (.int x), some (.int al), none]) rfl ?_
  intro p0 e0 s0 m0 args0 below0 meth0 c0 A0 C hr hlocks
  refine zj_iload_n (pc := 0) C dX6_stretch_0 rfl ?_
  refine zj_callSF (pc := 1) C kv_X6_53 (m_X6_isCrossing) dX6_stretch_1 rfl rfl rfl rfl rfl rfl ?_
  refine zj_ifb_eq (pc := 4) 18 C dX6_stretch_4 (by decide) (fun c_4 => ?_) (fun c_4 => ?_)
  · refine zj_ldcf (pc := 18) (v := 3212836864) C dX6_stretch_18 aq_619 ?_
    exact zj_fretF C hr hlocks dX6_stretch_20 (by unfold aST; rw [if_neg (by simp [c_4])]) (by rw [if_neg (by simp [c_4])]; rfl)
  · refine zj_aload_n (pc := 7) C dX6_stretch_7 rfl ?_
    refine gf_X6_0 (pc := 8) C dX6_stretch_8 0 rfl ?_
    refine zj_iload_n (pc := 11) C dX6_stretch_11 rfl ?_
    refine zj_callP1 (pc := 12) C kv_X6_102 (m_X1_hasAlley hP) dX6_stretch_12 1 rfl rfl rfl rfl rfl rfl rfl ⟨0, rfl⟩ rfl rfl ?_
    refine zj_ifb_ne (pc := 15) 21 C dX6_stretch_15 (by decide) (fun c_15 => ?_) (fun c_15 => ?_)
    · obtain ⟨x0, hx0, hxx0⟩ := isC_n c_4
      have hnx0 : x.toNatClampNeg = x0 := by rw [hxx0]; exact nI_clamp (by have := hv.2.1; omega)
      obtain ⟨al0, hal0, hxal0⟩ := tHas_s (by have := hv.2.1; omega) c_15
      have hnal0 : al.toNatClampNeg = al0 := by rw [hxal0]; exact nI_clamp (by have := hv.2.1; omega)
      refine zj_loc (lo' := [some (.ref (ad 0 0)), some (.int (nI x0)), some (.int (nI al0)), none]) (by rw [hxx0, hxal0]) ?_
      refine zj_aload_n (pc := 21) C dX6_stretch_21 rfl ?_
      refine zj_callA (pc := 22) C kv_X6_156 (m_X6_workOut hP hv hW1) dX6_stretch_22 [0, 1, 2, 3, 4, 5, 6, 7] [] rfl rfl rfl rfl rfl rfl rfl rfl ⟨0, rfl⟩ rfl rfl (fun v w1 hq => ?_)
      obtain ⟨rfl, rfl⟩ := hq
      refine zj_blk (bs' := [[((ad 0 0), .inr (6, [.ref (ad 1 0), .ref (ad 2 0), .ref (ad 3 0), .int (bI kp), .ref (ad 4 0), .ref (ad 5 0), .ref (ad 6 0), .ref (ad 7 0), .int (bI false)]))], plan G (ad 1) P, plan G (ad 2) Pd, plan G (ad 3) Ps, hist G (ad 4) q HP hn, text G (ad 5 0) (ad 5 1) t tn T, totT G (ad 6) (wK g st W1), totT G (ad 7) W2]) rfl ?_
      have hWK : TBT (wK g st W1) := wK_TBT hv hW1
      refine zj_aload_n (pc := 25) C dX6_stretch_25 rfl ?_
      refine gf_X6_6 (pc := 26) C dX6_stretch_26 0 rfl ?_
      refine zj_iload_n (pc := 29) C dX6_stretch_29 rfl ?_
      refine zj_iload_n (pc := 30) C dX6_stretch_30 rfl ?_
      refine zj_callP1 (pc := 31) C kv_X6_186 (m_X4_hasTotal hx0 (by have := hv.2.1; omega) (hWK.1.2.2.2.2 _ (by have := hv.2.1; omega))) dX6_stretch_31 6 rfl rfl rfl rfl rfl rfl rfl ⟨0, rfl⟩ rfl rfl ?_
      refine zj_ifb_ne (pc := 34) 40 C dX6_stretch_34 (by decide) (fun c_34 => ?_) (fun c_34 => ?_)
      · refine zj_aload_n (pc := 40) C dX6_stretch_40 rfl ?_
        refine zj_iload_n (pc := 41) C dX6_stretch_41 rfl ?_
        refine zj_iload_n (pc := 42) C dX6_stretch_42 rfl ?_
        refine zj_callPA (pc := 43) C kv_X6_208 (m_X6_shortestSum hP hv hx0 hal0) dX6_stretch_43 [0, 1, 2, 3, 4, 5, 6, 7] [] rfl rfl rfl rfl rfl rfl rfl rfl ⟨0, rfl⟩ rfl rfl ?_
        refine zj_top (x' := nI (shS g (wK g st W1) x0 al0)) rfl ?_
        have hsh : shS g (wK g st W1) x0 al0 ≤ 1000020 := by
          obtain ⟨v0, v1, v2⟩ := hv.2.2.2.2 al0 hal0
          have := hWK.1.1 4 x0 (alC g al0 0) (by decide) hx0 v0
          unfold shS; omega
        refine zj_istore_n (pc := 46) C dX6_stretch_46 (Nat.le_of_ble_eq_true rfl) ?_
        refine zj_iload_n (pc := 47) C dX6_stretch_47 rfl ?_
        refine zj_if_gt (pc := 48) 53 C dX6_stretch_48 (by decide) (fun c_48 => ?_) (fun c_48 => ?_)
        · have h0 : ¬ shS g (wK g st W1) x0 al0 = 0 := fun h => by rw [h] at c_48; exact absurd c_48 (by decide)
          have hsu := hWK.1.2.2.2.1 (x0 * 12 + al0) (by have := hv.2.1; omega)
          refine zj_aload_n (pc := 53) C dX6_stretch_53 rfl ?_
          refine gf_X6_6 (pc := 54) C dX6_stretch_54 0 rfl ?_
          refine zj_iload_n (pc := 57) C dX6_stretch_57 rfl ?_
          refine zj_iload_n (pc := 58) C dX6_stretch_58 rfl ?_
          refine zj_callP1 (pc := 59) C kv_X6_190 (m_X4_sumFor hx0 (by have := hv.2.1; omega)) dX6_stretch_59 6 rfl rfl rfl rfl rfl rfl rfl ⟨0, rfl⟩ rfl rfl ?_
          refine zj_i2f (pc := 62) C dX6_stretch_62 ?_
          refine zj_iload_n (pc := 63) C dX6_stretch_63 rfl ?_
          refine zj_i2f (pc := 64) C dX6_stretch_64 ?_
          refine zj_fdiv (pc := 65) C dX6_stretch_65 (fq_ok (by omega) (by omega) h0) ?_
          exact zj_fretF C hr hlocks dX6_stretch_66 (by unfold aST; rw [if_pos (by simp [c_4, c_15]), hnx0, hnal0, if_pos (show hsT _ _ _ = true from c_34), if_neg h0]) (by rw [if_pos (by simp [c_4, c_15])]; rfl)
        · refine zj_fconst1 (pc := 51) C dX6_stretch_51 ?_
          have h0 : shS g (wK g st W1) x0 al0 = 0 := by have := zle (a := 0) (b := shS g (wK g st W1) x0 al0) (Int32.not_lt.mp c_48) (by omega); omega
          exact zj_fretF C hr hlocks dX6_stretch_52 (by unfold aST; rw [if_pos (by simp [c_4, c_15]), hnx0, hnal0, if_pos (show hsT _ _ _ = true from c_34), if_pos h0]) (by rw [if_pos (by simp [c_4, c_15])]; rfl)
      · refine zj_ldcf (pc := 37) (v := 3212836864) C dX6_stretch_37 aq_619 ?_
        exact zj_fretF C hr hlocks dX6_stretch_39 (by unfold aST; rw [if_pos (by simp [c_4, c_15]), hnx0, hnal0, if_neg (show ¬ hsT _ _ _ = true by unfold hsT; rw [c_34]; decide)]) (by rw [if_pos (by simp [c_4, c_15])]; rfl)
    · refine zj_ldcf (pc := 18) (v := 3212836864) C dX6_stretch_18 aq_619 ?_
      exact zj_fretF C hr hlocks dX6_stretch_20 (by unfold aST; rw [if_neg (by simp [c_4, c_15])]) (by rw [if_neg (by simp [c_4, c_15])]; rfl)
