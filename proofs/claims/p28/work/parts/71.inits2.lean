theorem pl4_e {q2 q3 q4 q5 : Nat} {o2 o3 o4 o5 : Nat → Nat} (h2 : o2 0 = q2) (h3 : o3 0 = q3) (h4 : o4 0 = q4) (h5 : o5 0 = q5) : va_up (va_up (va_up (va_up (fun _ => none) 0 (some q2)) 1 (some q3)) 2 (some q4)) 3 (some q5) = pl4 (fun k => match k with | 0 => o2 | 1 => o3 | 2 => o4 | _ => o5) := by
  subst h2 h3 h4 h5
  funext k
  unfold va_up pl4
  by_cases k3 : k = 3
  · subst k3; rfl
  · by_cases k2 : k = 2
    · subst k2; rfl
    · by_cases k1 : k = 1
      · subst k1; rfl
      · by_cases k0 : k = 0
        · subst k0; rfl
        · rw [if_neg k3, if_neg k2, if_neg k1, if_neg k0, if_neg (by omega)]
set_option maxRecDepth 100000 in
set_option maxHeartbeats 4000000 in
theorem m_X0_init {l : Launch} {G : GG} {a : Nat} : zX l G yX0_init cX0_init 2 none 3 67 29 732 [.ref a] ([(a, .inr (0, [.null, .int 0]))]) (fun v w => v = none ∧ ∃ (o : Nat → Nat) (qq : Nat → Nat → Nat), o 0 = a ∧ w = hist G o qq (fun _ => P00) 0) := by
  refine zj_startN RX0 (by decide +kernel) rfl rfl rfl (bs := [[(a, .inr (0, [.null, .int 0]))]]) rfl (lo := [some (.ref a), none]) rfl ?_
  intro p0 e0 s0 m0 args0 below0 meth0 c0 A0 C hr hlocks hin
  refine zj_aload_n (pc := 0) C dX0_init_0 rfl ?_
  refine zj_objInit (pc := 1) C aq_88 aq_41 aq_42 dX0_init_1 rfl rfl rfl ?_
  refine zj_aload_n (pc := 4) C dX0_init_4 rfl ?_
  refine zj_iconst (pc := 5) (v := 4) C dX0_init_5 (by decide) ?_
  refine zj_newq (pc := 6) (N' := 4) C aq_89 rfl (by decide) rfl dX0_init_6 (fun q1 => ?_)
  refine zj_cs 1 4 (by decide) (by decide) ?_
  refine pf_X0_0 (pc := 9) C hin dX0_init_9 0 rfl ?_
  refine zj_blk (bs' := [[(a, .inr (0, [.ref q1, .int 0]))], [(q1, .inl (G.2 2, 4, .inr (.inr (.inr (.inr (fun _ => none))))))]]) rfl ?_
  refine zj_iconst (pc := 12) (v := 0) C dX0_init_12 (by decide) ?_
  refine zj_istore_n (pc := 13) C dX0_init_13 (Nat.le_of_ble_eq_true rfl) ?_
  refine zj_iload_n (pc := 14) C dX0_init_14 rfl ?_
  refine zj_aload_n (pc := 15) C dX0_init_15 rfl ?_
  refine gf_X0_0 (pc := 16) C dX0_init_16 0 rfl ?_
  refine zj_alen (pc := 19) (t0 := 2) C dX0_init_19 1 (by decide) rfl ?_
  refine zj_icmp_ge (pc := 20) 42 C dX0_init_20 (by decide) (fun c_20 => absurd c_20 (by decide +kernel)) (fun c_20 => ?_)
  refine zj_aload_n (pc := 23) C dX0_init_23 rfl ?_
  refine gf_X0_0 (pc := 24) C dX0_init_24 0 rfl ?_
  refine zj_iload_n (pc := 27) C dX0_init_27 rfl ?_
  refine zj_new (pc := 28) (ci := 1) (fs := [.null, .null, .null]) C iw_X1 tyX1 tyX1_ok aq_89 aq_44 qi_X1 rfl (fun j hj => by rcases (show j = 0 ∨ j = 1 ∨ j = 2 by omega) with rfl | rfl | rfl <;> rfl) rfl dX0_init_28 (fun q2 => ?_)
  refine zj_cs 2 7 (by decide) (by decide) ?_
  refine zj_blk (bs' := [[(a, .inr (0, [.ref q1, .int 0]))], [(q1, .inl (G.2 2, 4, .inr (.inr (.inr (.inr (fun _ => none))))))], [(q2, .inr (1, [.null, .null, .null]))]]) rfl ?_
  refine zj_dup (pc := 31) C dX0_init_31 rfl ?_
  refine zj_callIn (pc := 32) C kv_X0_17 (m_X1_init) dX0_init_32 rfl rfl rfl rfl rfl [2] [0, 1] rfl rfl (fun v w1 hq => ?_) rfl
  obtain ⟨rfl, q2o, q2e, rfl⟩ := hq
  refine zj_cs 8 186 (by decide) (by decide) ?_
  refine zj_blk (bs' := [plan G q2o P00, [(a, .inr (0, [.ref q1, .int 0]))], [(q1, .inl (G.2 2, 4, .inr (.inr (.inr (.inr (fun _ => none))))))]]) rfl ?_
  refine zj_aast (pc := 35) (0) C dX0_init_35 2 0 rfl (⟨_, List.mem_flatten.mpr ⟨plan G q2o P00, by simp, plan_m q2e⟩, rfl⟩) rfl (by decide) (by decide) ?_
  refine zj_blk (bs' := [plan G q2o P00, [(a, .inr (0, [.ref q1, .int 0]))], [(q1, .inl (G.2 2, 4, .inr (.inr (.inr (.inr (va_up (fun _ => none) 0 (some q2)))))))]]) rfl ?_
  refine zj_iinc (pc := 36) C dX0_init_36 rfl rfl ?_
  refine zj_goto (pc := 39) (tgt := 14) C dX0_init_39 (by decide) ?_
  refine zj_iload_n (pc := 14) C dX0_init_14 rfl ?_
  refine zj_aload_n (pc := 15) C dX0_init_15 rfl ?_
  refine gf_X0_0 (pc := 16) C dX0_init_16 1 rfl ?_
  refine zj_alen (pc := 19) (t0 := 2) C dX0_init_19 2 (by decide) rfl ?_
  refine zj_icmp_ge (pc := 20) 42 C dX0_init_20 (by decide) (fun c_20 => absurd c_20 (by decide +kernel)) (fun c_20 => ?_)
  refine zj_aload_n (pc := 23) C dX0_init_23 rfl ?_
  refine gf_X0_0 (pc := 24) C dX0_init_24 1 rfl ?_
  refine zj_iload_n (pc := 27) C dX0_init_27 rfl ?_
  refine zj_new (pc := 28) (ci := 1) (fs := [.null, .null, .null]) C iw_X1 tyX1 tyX1_ok aq_89 aq_44 qi_X1 rfl (fun j hj => by rcases (show j = 0 ∨ j = 1 ∨ j = 2 by omega) with rfl | rfl | rfl <;> rfl) rfl dX0_init_28 (fun q3 => ?_)
  refine zj_cs 9 189 (by decide) (by decide) ?_
  refine zj_blk (bs' := [plan G q2o P00, [(a, .inr (0, [.ref q1, .int 0]))], [(q1, .inl (G.2 2, 4, .inr (.inr (.inr (.inr (va_up (fun _ => none) 0 (some q2)))))))], [(q3, .inr (1, [.null, .null, .null]))]]) rfl ?_
  refine zj_dup (pc := 31) C dX0_init_31 rfl ?_
  refine zj_callIn (pc := 32) C kv_X0_17 (m_X1_init) dX0_init_32 rfl rfl rfl rfl rfl [3] [0, 1, 2] rfl rfl (fun v w1 hq => ?_) rfl
  obtain ⟨rfl, q3o, q3e, rfl⟩ := hq
  refine zj_cs 15 368 (by decide) (by decide) ?_
  refine zj_blk (bs' := [plan G q3o P00, plan G q2o P00, [(a, .inr (0, [.ref q1, .int 0]))], [(q1, .inl (G.2 2, 4, .inr (.inr (.inr (.inr (va_up (fun _ => none) 0 (some q2)))))))]]) rfl ?_
  refine zj_aast (pc := 35) (1) C dX0_init_35 3 0 rfl (⟨_, List.mem_flatten.mpr ⟨plan G q3o P00, by simp, plan_m q3e⟩, rfl⟩) rfl (by decide) (by decide) ?_
  refine zj_blk (bs' := [plan G q3o P00, plan G q2o P00, [(a, .inr (0, [.ref q1, .int 0]))], [(q1, .inl (G.2 2, 4, .inr (.inr (.inr (.inr (va_up (va_up (fun _ => none) 0 (some q2)) 1 (some q3)))))))]]) rfl ?_
  refine zj_iinc (pc := 36) C dX0_init_36 rfl rfl ?_
  refine zj_goto (pc := 39) (tgt := 14) C dX0_init_39 (by decide) ?_
  refine zj_iload_n (pc := 14) C dX0_init_14 rfl ?_
  refine zj_aload_n (pc := 15) C dX0_init_15 rfl ?_
  refine gf_X0_0 (pc := 16) C dX0_init_16 2 rfl ?_
  refine zj_alen (pc := 19) (t0 := 2) C dX0_init_19 3 (by decide) rfl ?_
  refine zj_icmp_ge (pc := 20) 42 C dX0_init_20 (by decide) (fun c_20 => absurd c_20 (by decide +kernel)) (fun c_20 => ?_)
  refine zj_aload_n (pc := 23) C dX0_init_23 rfl ?_
  refine gf_X0_0 (pc := 24) C dX0_init_24 2 rfl ?_
  refine zj_iload_n (pc := 27) C dX0_init_27 rfl ?_
  refine zj_new (pc := 28) (ci := 1) (fs := [.null, .null, .null]) C iw_X1 tyX1 tyX1_ok aq_89 aq_44 qi_X1 rfl (fun j hj => by rcases (show j = 0 ∨ j = 1 ∨ j = 2 by omega) with rfl | rfl | rfl <;> rfl) rfl dX0_init_28 (fun q4 => ?_)
  refine zj_cs 16 371 (by decide) (by decide) ?_
  refine zj_blk (bs' := [plan G q3o P00, plan G q2o P00, [(a, .inr (0, [.ref q1, .int 0]))], [(q1, .inl (G.2 2, 4, .inr (.inr (.inr (.inr (va_up (va_up (fun _ => none) 0 (some q2)) 1 (some q3)))))))], [(q4, .inr (1, [.null, .null, .null]))]]) rfl ?_
  refine zj_dup (pc := 31) C dX0_init_31 rfl ?_
  refine zj_callIn (pc := 32) C kv_X0_17 (m_X1_init) dX0_init_32 rfl rfl rfl rfl rfl [4] [0, 1, 2, 3] rfl rfl (fun v w1 hq => ?_) rfl
  obtain ⟨rfl, q4o, q4e, rfl⟩ := hq
  refine zj_cs 22 550 (by decide) (by decide) ?_
  refine zj_blk (bs' := [plan G q4o P00, plan G q3o P00, plan G q2o P00, [(a, .inr (0, [.ref q1, .int 0]))], [(q1, .inl (G.2 2, 4, .inr (.inr (.inr (.inr (va_up (va_up (fun _ => none) 0 (some q2)) 1 (some q3)))))))]]) rfl ?_
  refine zj_aast (pc := 35) (2) C dX0_init_35 4 0 rfl (⟨_, List.mem_flatten.mpr ⟨plan G q4o P00, by simp, plan_m q4e⟩, rfl⟩) rfl (by decide) (by decide) ?_
  refine zj_blk (bs' := [plan G q4o P00, plan G q3o P00, plan G q2o P00, [(a, .inr (0, [.ref q1, .int 0]))], [(q1, .inl (G.2 2, 4, .inr (.inr (.inr (.inr (va_up (va_up (va_up (fun _ => none) 0 (some q2)) 1 (some q3)) 2 (some q4)))))))]]) rfl ?_
  refine zj_iinc (pc := 36) C dX0_init_36 rfl rfl ?_
  refine zj_goto (pc := 39) (tgt := 14) C dX0_init_39 (by decide) ?_
  refine zj_iload_n (pc := 14) C dX0_init_14 rfl ?_
  refine zj_aload_n (pc := 15) C dX0_init_15 rfl ?_
  refine gf_X0_0 (pc := 16) C dX0_init_16 3 rfl ?_
  refine zj_alen (pc := 19) (t0 := 2) C dX0_init_19 4 (by decide) rfl ?_
  refine zj_icmp_ge (pc := 20) 42 C dX0_init_20 (by decide) (fun c_20 => absurd c_20 (by decide +kernel)) (fun c_20 => ?_)
  refine zj_aload_n (pc := 23) C dX0_init_23 rfl ?_
  refine gf_X0_0 (pc := 24) C dX0_init_24 3 rfl ?_
  refine zj_iload_n (pc := 27) C dX0_init_27 rfl ?_
  refine zj_new (pc := 28) (ci := 1) (fs := [.null, .null, .null]) C iw_X1 tyX1 tyX1_ok aq_89 aq_44 qi_X1 rfl (fun j hj => by rcases (show j = 0 ∨ j = 1 ∨ j = 2 by omega) with rfl | rfl | rfl <;> rfl) rfl dX0_init_28 (fun q5 => ?_)
  refine zj_cs 23 553 (by decide) (by decide) ?_
  refine zj_blk (bs' := [plan G q4o P00, plan G q3o P00, plan G q2o P00, [(a, .inr (0, [.ref q1, .int 0]))], [(q1, .inl (G.2 2, 4, .inr (.inr (.inr (.inr (va_up (va_up (va_up (fun _ => none) 0 (some q2)) 1 (some q3)) 2 (some q4)))))))], [(q5, .inr (1, [.null, .null, .null]))]]) rfl ?_
  refine zj_dup (pc := 31) C dX0_init_31 rfl ?_
  refine zj_callIn (pc := 32) C kv_X0_17 (m_X1_init) dX0_init_32 rfl rfl rfl rfl rfl [5] [0, 1, 2, 3, 4] rfl rfl (fun v w1 hq => ?_) rfl
  obtain ⟨rfl, q5o, q5e, rfl⟩ := hq
  refine zj_cs 29 732 (by decide) (by decide) ?_
  refine zj_blk (bs' := [plan G q5o P00, plan G q4o P00, plan G q3o P00, plan G q2o P00, [(a, .inr (0, [.ref q1, .int 0]))], [(q1, .inl (G.2 2, 4, .inr (.inr (.inr (.inr (va_up (va_up (va_up (fun _ => none) 0 (some q2)) 1 (some q3)) 2 (some q4)))))))]]) rfl ?_
  refine zj_aast (pc := 35) (3) C dX0_init_35 5 0 rfl (⟨_, List.mem_flatten.mpr ⟨plan G q5o P00, by simp, plan_m q5e⟩, rfl⟩) rfl (by decide) (by decide) ?_
  refine zj_blk (bs' := [plan G q5o P00, plan G q4o P00, plan G q3o P00, plan G q2o P00, [(a, .inr (0, [.ref q1, .int 0]))], [(q1, .inl (G.2 2, 4, .inr (.inr (.inr (.inr (va_up (va_up (va_up (va_up (fun _ => none) 0 (some q2)) 1 (some q3)) 2 (some q4)) 3 (some q5)))))))]]) rfl ?_
  refine zj_iinc (pc := 36) C dX0_init_36 rfl rfl ?_
  refine zj_goto (pc := 39) (tgt := 14) C dX0_init_39 (by decide) ?_
  refine zj_iload_n (pc := 14) C dX0_init_14 rfl ?_
  refine zj_aload_n (pc := 15) C dX0_init_15 rfl ?_
  refine gf_X0_0 (pc := 16) C dX0_init_16 4 rfl ?_
  refine zj_alen (pc := 19) (t0 := 2) C dX0_init_19 5 (by decide) rfl ?_
  refine zj_icmp_ge (pc := 20) 42 C dX0_init_20 (by decide) (fun c_20 => ?_) (fun c_20 => absurd (by decide +kernel) c_20)
  refine zj_aload_n (pc := 42) C dX0_init_42 rfl ?_
  refine zj_iconst (pc := 43) (v := 0) C dX0_init_43 (by decide) ?_
  refine pf_X0_1 (pc := 44) C dX0_init_44 4 rfl ?_
  refine zj_blk (bs' := [plan G q5o P00, plan G q4o P00, plan G q3o P00, plan G q2o P00, [(a, .inr (0, [.ref q1, .int 0]))], [(q1, .inl (G.2 2, 4, .inr (.inr (.inr (.inr (va_up (va_up (va_up (va_up (fun _ => none) 0 (some q2)) 1 (some q3)) 2 (some q4)) 3 (some q5)))))))]]) rfl ?_
  refine zj_ord [4, 5, 3, 2, 1, 0] rfl ?_
  refine zj_vret C hr hlocks dX0_init_47 ?_
  refine ⟨rfl, (fun k => match k with | 0 => a | _ => q1), (fun k => match k with | 0 => q2o | 1 => q3o | 2 => q4o | _ => q5o), rfl, ?_⟩
  show List.flatten _ = List.flatten _
  rw [pl4_e q2e q3e q4e q5e]
  rfl
