set_option maxRecDepth 100000 in
set_option maxHeartbeats 4000000 in
theorem m_X7_init {l : Launch} {G : GG} {a : Nat} : zX l G yX7_init cX7_init 2 none 1 24 11 2797 [.ref a] ([(a, .inr (7, [.null, .null, .null, .int 0, .null, .int 0, .null, .int 0, .null, .null, .null, .null, .null, .null, .int 0, .int 0, .int 0]))]) (fun v w => v = none ∧ ∃ m : Nat → Nat, m 0 = a ∧ w = (mB G m (rk0 14) (fun _ => 0) (fun _ => 0) 0 (fun _ => 0) false (fun _ => 0) 0 (fun _ => 0) (fun _ => 0) (fun _ => 0) (fun _ => 0) (fun _ => 0) (fun _ => 0) 0 false 0).flatten) := by
  refine zj_startN RX7 (by decide +kernel) rfl rfl rfl (bs := [[(a, .inr (7, [.null, .null, .null, .int 0, .null, .int 0, .null, .int 0, .null, .null, .null, .null, .null, .null, .int 0, .int 0, .int 0]))]]) rfl (lo := [some (.ref a), none]) rfl ?_
  intro p0 e0 s0 m0 args0 below0 meth0 c0 A0 C hr hlocks hin
  refine zj_aload_n (pc := 0) C dX7_init_0 rfl ?_
  refine zj_objInit (pc := 1) C aq_804 aq_100 aq_101 dX7_init_1 rfl rfl rfl ?_
  refine zj_aload_n (pc := 4) C dX7_init_4 rfl ?_
  refine zj_sipush (pc := 5) (v := 177) C dX7_init_5 (by decide) ?_
  refine zj_newi (pc := 8) (N' := 177) C aq_127 rfl (by decide) rfl dX7_init_8 (fun q1 => ?_)
  refine zj_cs 1 177 (by decide) (by decide) ?_
  refine pf_X7_0 (pc := 10) C hin dX7_init_10 0 rfl ?_
  refine zj_blk (bs' := [[(a, .inr (7, [.ref q1, .null, .null, .int 0, .null, .int 0, .null, .int 0, .null, .null, .null, .null, .null, .null, .int 0, .int 0, .int 0]))], [(q1, .inl (G.2 0, 177, .inl (fun _ => 0)))]]) rfl ?_
  refine zj_aload_n (pc := 13) C dX7_init_13 rfl ?_
  refine zj_sipush (pc := 14) (v := 177) C dX7_init_14 (by decide) ?_
  refine zj_newi (pc := 17) (N' := 177) C aq_127 rfl (by decide) rfl dX7_init_17 (fun q2 => ?_)
  refine zj_cs 2 354 (by decide) (by decide) ?_
  refine pf_X7_1 (pc := 19) C hin dX7_init_19 0 rfl ?_
  refine zj_blk (bs' := [[(a, .inr (7, [.ref q1, .ref q2, .null, .int 0, .null, .int 0, .null, .int 0, .null, .null, .null, .null, .null, .null, .int 0, .int 0, .int 0]))], [(q1, .inl (G.2 0, 177, .inl (fun _ => 0)))], [(q2, .inl (G.2 0, 177, .inl (fun _ => 0)))]]) rfl ?_
  refine zj_aload_n (pc := 22) C dX7_init_22 rfl ?_
  refine zj_sipush (pc := 23) (v := 708) C dX7_init_23 (by decide) ?_
  refine zj_newi (pc := 26) (N' := 708) C aq_127 rfl (by decide) rfl dX7_init_26 (fun q3 => ?_)
  refine zj_cs 3 1062 (by decide) (by decide) ?_
  refine pf_X7_2 (pc := 28) C hin dX7_init_28 0 rfl ?_
  refine zj_blk (bs' := [[(a, .inr (7, [.ref q1, .ref q2, .ref q3, .int 0, .null, .int 0, .null, .int 0, .null, .null, .null, .null, .null, .null, .int 0, .int 0, .int 0]))], [(q1, .inl (G.2 0, 177, .inl (fun _ => 0)))], [(q2, .inl (G.2 0, 177, .inl (fun _ => 0)))], [(q3, .inl (G.2 0, 708, .inl (fun _ => 0)))]]) rfl ?_
  refine zj_aload_n (pc := 31) C dX7_init_31 rfl ?_
  refine zj_sipush (pc := 32) (v := 177) C dX7_init_32 (by decide) ?_
  refine zj_newi (pc := 35) (N' := 177) C aq_127 rfl (by decide) rfl dX7_init_35 (fun q4 => ?_)
  refine zj_cs 4 1239 (by decide) (by decide) ?_
  refine pf_X7_4 (pc := 37) C hin dX7_init_37 0 rfl ?_
  refine zj_blk (bs' := [[(a, .inr (7, [.ref q1, .ref q2, .ref q3, .int 0, .ref q4, .int 0, .null, .int 0, .null, .null, .null, .null, .null, .null, .int 0, .int 0, .int 0]))], [(q1, .inl (G.2 0, 177, .inl (fun _ => 0)))], [(q2, .inl (G.2 0, 177, .inl (fun _ => 0)))], [(q3, .inl (G.2 0, 708, .inl (fun _ => 0)))], [(q4, .inl (G.2 0, 177, .inl (fun _ => 0)))]]) rfl ?_
  refine zj_aload_n (pc := 40) C dX7_init_40 rfl ?_
  refine zj_bipush (pc := 41) (v := 60) C dX7_init_41 (by decide) ?_
  refine zj_newi (pc := 43) (N' := 60) C aq_127 rfl (by decide) rfl dX7_init_43 (fun q5 => ?_)
  refine zj_cs 5 1299 (by decide) (by decide) ?_
  refine pf_X7_6 (pc := 45) C hin dX7_init_45 0 rfl ?_
  refine zj_blk (bs' := [[(a, .inr (7, [.ref q1, .ref q2, .ref q3, .int 0, .ref q4, .int 0, .ref q5, .int 0, .null, .null, .null, .null, .null, .null, .int 0, .int 0, .int 0]))], [(q1, .inl (G.2 0, 177, .inl (fun _ => 0)))], [(q2, .inl (G.2 0, 177, .inl (fun _ => 0)))], [(q3, .inl (G.2 0, 708, .inl (fun _ => 0)))], [(q4, .inl (G.2 0, 177, .inl (fun _ => 0)))], [(q5, .inl (G.2 0, 60, .inl (fun _ => 0)))]]) rfl ?_
  refine zj_aload_n (pc := 48) C dX7_init_48 rfl ?_
  refine zj_bipush (pc := 49) (v := 14) C dX7_init_49 (by decide) ?_
  refine zj_newi (pc := 51) (N' := 14) C aq_127 rfl (by decide) rfl dX7_init_51 (fun q6 => ?_)
  refine zj_cs 6 1313 (by decide) (by decide) ?_
  refine pf_X7_8 (pc := 53) C hin dX7_init_53 0 rfl ?_
  refine zj_blk (bs' := [[(a, .inr (7, [.ref q1, .ref q2, .ref q3, .int 0, .ref q4, .int 0, .ref q5, .int 0, .ref q6, .null, .null, .null, .null, .null, .int 0, .int 0, .int 0]))], [(q1, .inl (G.2 0, 177, .inl (fun _ => 0)))], [(q2, .inl (G.2 0, 177, .inl (fun _ => 0)))], [(q3, .inl (G.2 0, 708, .inl (fun _ => 0)))], [(q4, .inl (G.2 0, 177, .inl (fun _ => 0)))], [(q5, .inl (G.2 0, 60, .inl (fun _ => 0)))], [(q6, .inl (G.2 0, 14, .inl (fun _ => 0)))]]) rfl ?_
  refine zj_aload_n (pc := 56) C dX7_init_56 rfl ?_
  refine zj_sipush (pc := 57) (v := 784) C dX7_init_57 (by decide) ?_
  refine zj_newi (pc := 60) (N' := 784) C aq_127 rfl (by decide) rfl dX7_init_60 (fun q7 => ?_)
  refine zj_cs 7 2097 (by decide) (by decide) ?_
  refine pf_X7_9 (pc := 62) C hin dX7_init_62 0 rfl ?_
  refine zj_blk (bs' := [[(a, .inr (7, [.ref q1, .ref q2, .ref q3, .int 0, .ref q4, .int 0, .ref q5, .int 0, .ref q6, .ref q7, .null, .null, .null, .null, .int 0, .int 0, .int 0]))], [(q1, .inl (G.2 0, 177, .inl (fun _ => 0)))], [(q2, .inl (G.2 0, 177, .inl (fun _ => 0)))], [(q3, .inl (G.2 0, 708, .inl (fun _ => 0)))], [(q4, .inl (G.2 0, 177, .inl (fun _ => 0)))], [(q5, .inl (G.2 0, 60, .inl (fun _ => 0)))], [(q6, .inl (G.2 0, 14, .inl (fun _ => 0)))], [(q7, .inl (G.2 0, 784, .inl (fun _ => 0)))]]) rfl ?_
  refine zj_aload_n (pc := 65) C dX7_init_65 rfl ?_
  refine zj_sipush (pc := 66) (v := 196) C dX7_init_66 (by decide) ?_
  refine zj_newi (pc := 69) (N' := 196) C aq_127 rfl (by decide) rfl dX7_init_69 (fun q8 => ?_)
  refine zj_cs 8 2293 (by decide) (by decide) ?_
  refine pf_X7_10 (pc := 71) C hin dX7_init_71 0 rfl ?_
  refine zj_blk (bs' := [[(a, .inr (7, [.ref q1, .ref q2, .ref q3, .int 0, .ref q4, .int 0, .ref q5, .int 0, .ref q6, .ref q7, .ref q8, .null, .null, .null, .int 0, .int 0, .int 0]))], [(q1, .inl (G.2 0, 177, .inl (fun _ => 0)))], [(q2, .inl (G.2 0, 177, .inl (fun _ => 0)))], [(q3, .inl (G.2 0, 708, .inl (fun _ => 0)))], [(q4, .inl (G.2 0, 177, .inl (fun _ => 0)))], [(q5, .inl (G.2 0, 60, .inl (fun _ => 0)))], [(q6, .inl (G.2 0, 14, .inl (fun _ => 0)))], [(q7, .inl (G.2 0, 784, .inl (fun _ => 0)))], [(q8, .inl (G.2 0, 196, .inl (fun _ => 0)))]]) rfl ?_
  refine zj_aload_n (pc := 74) C dX7_init_74 rfl ?_
  refine zj_sipush (pc := 75) (v := 168) C dX7_init_75 (by decide) ?_
  refine zj_newi (pc := 78) (N' := 168) C aq_127 rfl (by decide) rfl dX7_init_78 (fun q9 => ?_)
  refine zj_cs 9 2461 (by decide) (by decide) ?_
  refine pf_X7_11 (pc := 80) C hin dX7_init_80 0 rfl ?_
  refine zj_blk (bs' := [[(a, .inr (7, [.ref q1, .ref q2, .ref q3, .int 0, .ref q4, .int 0, .ref q5, .int 0, .ref q6, .ref q7, .ref q8, .ref q9, .null, .null, .int 0, .int 0, .int 0]))], [(q1, .inl (G.2 0, 177, .inl (fun _ => 0)))], [(q2, .inl (G.2 0, 177, .inl (fun _ => 0)))], [(q3, .inl (G.2 0, 708, .inl (fun _ => 0)))], [(q4, .inl (G.2 0, 177, .inl (fun _ => 0)))], [(q5, .inl (G.2 0, 60, .inl (fun _ => 0)))], [(q6, .inl (G.2 0, 14, .inl (fun _ => 0)))], [(q7, .inl (G.2 0, 784, .inl (fun _ => 0)))], [(q8, .inl (G.2 0, 196, .inl (fun _ => 0)))], [(q9, .inl (G.2 0, 168, .inl (fun _ => 0)))]]) rfl ?_
  refine zj_aload_n (pc := 83) C dX7_init_83 rfl ?_
  refine zj_sipush (pc := 84) (v := 168) C dX7_init_84 (by decide) ?_
  refine zj_newi (pc := 87) (N' := 168) C aq_127 rfl (by decide) rfl dX7_init_87 (fun q10 => ?_)
  refine zj_cs 10 2629 (by decide) (by decide) ?_
  refine pf_X7_12 (pc := 89) C hin dX7_init_89 0 rfl ?_
  refine zj_blk (bs' := [[(a, .inr (7, [.ref q1, .ref q2, .ref q3, .int 0, .ref q4, .int 0, .ref q5, .int 0, .ref q6, .ref q7, .ref q8, .ref q9, .ref q10, .null, .int 0, .int 0, .int 0]))], [(q1, .inl (G.2 0, 177, .inl (fun _ => 0)))], [(q2, .inl (G.2 0, 177, .inl (fun _ => 0)))], [(q3, .inl (G.2 0, 708, .inl (fun _ => 0)))], [(q4, .inl (G.2 0, 177, .inl (fun _ => 0)))], [(q5, .inl (G.2 0, 60, .inl (fun _ => 0)))], [(q6, .inl (G.2 0, 14, .inl (fun _ => 0)))], [(q7, .inl (G.2 0, 784, .inl (fun _ => 0)))], [(q8, .inl (G.2 0, 196, .inl (fun _ => 0)))], [(q9, .inl (G.2 0, 168, .inl (fun _ => 0)))], [(q10, .inl (G.2 0, 168, .inl (fun _ => 0)))]]) rfl ?_
  refine zj_aload_n (pc := 92) C dX7_init_92 rfl ?_
  refine zj_sipush (pc := 93) (v := 168) C dX7_init_93 (by decide) ?_
  refine zj_newi (pc := 96) (N' := 168) C aq_127 rfl (by decide) rfl dX7_init_96 (fun q11 => ?_)
  refine zj_cs 11 2797 (by decide) (by decide) ?_
  refine pf_X7_13 (pc := 98) C hin dX7_init_98 0 rfl ?_
  refine zj_blk (bs' := [[(a, .inr (7, [.ref q1, .ref q2, .ref q3, .int 0, .ref q4, .int 0, .ref q5, .int 0, .ref q6, .ref q7, .ref q8, .ref q9, .ref q10, .ref q11, .int 0, .int 0, .int 0]))], [(q1, .inl (G.2 0, 177, .inl (fun _ => 0)))], [(q2, .inl (G.2 0, 177, .inl (fun _ => 0)))], [(q3, .inl (G.2 0, 708, .inl (fun _ => 0)))], [(q4, .inl (G.2 0, 177, .inl (fun _ => 0)))], [(q5, .inl (G.2 0, 60, .inl (fun _ => 0)))], [(q6, .inl (G.2 0, 14, .inl (fun _ => 0)))], [(q7, .inl (G.2 0, 784, .inl (fun _ => 0)))], [(q8, .inl (G.2 0, 196, .inl (fun _ => 0)))], [(q9, .inl (G.2 0, 168, .inl (fun _ => 0)))], [(q10, .inl (G.2 0, 168, .inl (fun _ => 0)))], [(q11, .inl (G.2 0, 168, .inl (fun _ => 0)))]]) rfl ?_
  refine zj_iconst (pc := 101) (v := 0) C dX7_init_101 (by decide) ?_
  refine zj_istore_n (pc := 102) C dX7_init_102 (Nat.le_of_ble_eq_true rfl) ?_
  refine zj_keep [true, true] ?_
  refine zj_blk (bs' := [[(a, .inr (7, [.ref q1, .ref q2, .ref q3, .int 0, .ref q4, .int 0, .ref q5, .int 0, .ref q6, .ref q7, .ref q8, .ref q9, .ref q10, .ref q11, .int 0, .int 0, .int 0]))], [(q1, .inl (G.2 0, 177, .inl (nF (rk0 (0)))))], [(q2, .inl (G.2 0, 177, .inl (fun _ => 0)))], [(q3, .inl (G.2 0, 708, .inl (fun _ => 0)))], [(q4, .inl (G.2 0, 177, .inl (fun _ => 0)))], [(q5, .inl (G.2 0, 60, .inl (fun _ => 0)))], [(q6, .inl (G.2 0, 14, .inl (fun _ => 0)))], [(q7, .inl (G.2 0, 784, .inl (fun _ => 0)))], [(q8, .inl (G.2 0, 196, .inl (fun _ => 0)))], [(q9, .inl (G.2 0, 168, .inl (fun _ => 0)))], [(q10, .inl (G.2 0, 168, .inl (fun _ => 0)))], [(q11, .inl (G.2 0, 168, .inl (fun _ => 0)))]]) rfl ?_
  refine zj_loopW (σ := Nat) (fun x => x ≤ 14) (fun x => 14 - x) (fun x => [[(a, .inr (7, [.ref q1, .ref q2, .ref q3, .int 0, .ref q4, .int 0, .ref q5, .int 0, .ref q6, .ref q7, .ref q8, .ref q9, .ref q10, .ref q11, .int 0, .int 0, .int 0]))], [(q1, .inl (G.2 0, 177, .inl (nF (rk0 (x)))))], [(q2, .inl (G.2 0, 177, .inl (fun _ => 0)))], [(q3, .inl (G.2 0, 708, .inl (fun _ => 0)))], [(q4, .inl (G.2 0, 177, .inl (fun _ => 0)))], [(q5, .inl (G.2 0, 60, .inl (fun _ => 0)))], [(q6, .inl (G.2 0, 14, .inl (fun _ => 0)))], [(q7, .inl (G.2 0, 784, .inl (fun _ => 0)))], [(q8, .inl (G.2 0, 196, .inl (fun _ => 0)))], [(q9, .inl (G.2 0, 168, .inl (fun _ => 0)))], [(q10, .inl (G.2 0, 168, .inl (fun _ => 0)))], [(q11, .inl (G.2 0, 168, .inl (fun _ => 0)))]]) (fun x => [some (.ref a), some (.int (nI x))]) ?_ 0 (Nat.zero_le _)
  intro k hk ih
  refine zj_iload_n (pc := 103) C dX7_init_103 rfl ?_
  refine zj_bipush (pc := 104) (v := 14) C dX7_init_104 (by decide) ?_
  refine zj_icmp_ge (pc := 106) 124 C dX7_init_106 (by decide) (fun c_106 => ?_) (fun c_106 => ?_)
  · have hk9 : k = 14 := Nat.le_antisymm hk (zle c_106 (by omega))
    subst hk9
    refine zj_vret C hr hlocks dX7_init_124 ?_
    refine ⟨rfl, (fun k => match k with | 0 => a | 1 => q1 | 2 => q2 | 3 => q3 | 4 => q4 | 5 => q5 | 6 => q6 | 7 => q7 | 8 => q8 | 9 => q9 | 10 => q10 | _ => q11), rfl, ?_⟩
    show List.flatten _ = List.flatten _
    rfl
  · have hk14 : k < 14 := zlt c_106 (by omega)
    refine zj_aload_n (pc := 109) C dX7_init_109 rfl ?_
    refine gf_X7_0 (pc := 110) C dX7_init_110 0 rfl ?_
    refine zj_iconst (pc := 113) (v := 0) C dX7_init_113 (by decide) ?_
    refine zj_iload_n (pc := 114) C dX7_init_114 rfl ?_
    refine zj_iadd (pc := 115) C dX7_init_115 ?_
    refine zj_iconst (pc := 116) (v := 1) C dX7_init_116 (by decide) ?_
    refine zj_iast (pc := 117) (k) C dX7_init_117 1 rfl (Int32.zero_add _) (by omega) (by decide) ?_
    refine zj_iinc (pc := 118) (v := nI (k + 1)) C dX7_init_118 rfl (nI_1 _) ?_
    refine zj_goto (pc := 121) (tgt := 103) C dX7_init_121 (by decide) ?_
    refine zj_blk (bs' := [[(a, .inr (7, [.ref q1, .ref q2, .ref q3, .int 0, .ref q4, .int 0, .ref q5, .int 0, .ref q6, .ref q7, .ref q8, .ref q9, .ref q10, .ref q11, .int 0, .int 0, .int 0]))], [(q1, .inl (G.2 0, 177, .inl (nF (rk0 (k + 1)))))], [(q2, .inl (G.2 0, 177, .inl (fun _ => 0)))], [(q3, .inl (G.2 0, 708, .inl (fun _ => 0)))], [(q4, .inl (G.2 0, 177, .inl (fun _ => 0)))], [(q5, .inl (G.2 0, 60, .inl (fun _ => 0)))], [(q6, .inl (G.2 0, 14, .inl (fun _ => 0)))], [(q7, .inl (G.2 0, 784, .inl (fun _ => 0)))], [(q8, .inl (G.2 0, 196, .inl (fun _ => 0)))], [(q9, .inl (G.2 0, 168, .inl (fun _ => 0)))], [(q10, .inl (G.2 0, 168, .inl (fun _ => 0)))], [(q11, .inl (G.2 0, 168, .inl (fun _ => 0)))]]) (by rw [← rk0_s, ← nF_upd]; rfl) ?_
    exact ih (k + 1) hk14 (by omega)
