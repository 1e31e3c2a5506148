set_option maxRecDepth 100000 in
set_option maxHeartbeats 4000000 in
theorem m_X6_init {l : Launch} {G : GG} {a : Nat} : zX l G yX6_init cX6_init 1 none 4 88 75 4055 [.ref a] ([(a, .inr (6, [.null, .null, .null, .int 0, .null, .null, .null, .null, .int 0]))]) (fun v w => v = none ∧ ∃ (ad : Nat → Nat → Nat) (qq : Nat → Nat → Nat), ad 0 0 = a ∧ w = cls G ad qq P00 P00 P00 false (fun _ => P00) 0 (fun _ => 0) 0 T00 W00 W00 true) := by
  refine zj_startN RX6 (by decide +kernel) rfl rfl rfl (bs := [[(a, .inr (6, [.null, .null, .null, .int 0, .null, .null, .null, .null, .int 0]))]]) rfl (lo := [some (.ref a)]) rfl ?_
  intro p0 e0 s0 m0 args0 below0 meth0 c0 A0 C hr hlocks hin
  refine zj_aload_n (pc := 0) C dX6_init_0 rfl ?_
  refine zj_objInit (pc := 1) C aq_40 aq_41 aq_42 dX6_init_1 rfl rfl rfl ?_
  refine zj_aload_n (pc := 4) C dX6_init_4 rfl ?_
  refine zj_new (pc := 5) (ci := 1) (fs := [.null, .null, .null]) C iw_X1 tyX1 tyX1_ok aq_43 aq_44 qi_X1 rfl (fun j hj => by rcases (show j = 0 ∨ j = 1 ∨ j = 2 by omega) with rfl | rfl | rfl <;> rfl) rfl dX6_init_5 (fun q1 => ?_)
  refine zj_cs 1 3 (by decide) (by decide) ?_
  refine zj_blk (bs' := [[(a, .inr (6, [.null, .null, .null, .int 0, .null, .null, .null, .null, .int 0]))], [(q1, .inr (1, [.null, .null, .null]))]]) rfl ?_
  refine zj_dup (pc := 8) C dX6_init_8 rfl ?_
  refine zj_callIn (pc := 9) C kv_X6_9 (m_X1_init) dX6_init_9 rfl rfl rfl rfl rfl [1] [0] rfl rfl (fun v w1 hq => ?_) rfl
  obtain ⟨rfl, q1o, q1e, rfl⟩ := hq
  refine zj_cs 7 182 (by decide) (by decide) ?_
  refine zj_blk (bs' := [plan G q1o P00, [(a, .inr (6, [.null, .null, .null, .int 0, .null, .null, .null, .null, .int 0]))]]) rfl ?_
  refine pf_X6_0 (pc := 12) C hin dX6_init_12 1 rfl ?_
  refine zj_blk (bs' := [plan G q1o P00, [(a, .inr (6, [.ref q1, .null, .null, .int 0, .null, .null, .null, .null, .int 0]))]]) rfl ?_
  refine zj_aload_n (pc := 15) C dX6_init_15 rfl ?_
  refine zj_new (pc := 16) (ci := 1) (fs := [.null, .null, .null]) C iw_X1 tyX1 tyX1_ok aq_43 aq_44 qi_X1 rfl (fun j hj => by rcases (show j = 0 ∨ j = 1 ∨ j = 2 by omega) with rfl | rfl | rfl <;> rfl) rfl dX6_init_16 (fun q2 => ?_)
  refine zj_cs 8 185 (by decide) (by decide) ?_
  refine zj_blk (bs' := [plan G q1o P00, [(a, .inr (6, [.ref q1, .null, .null, .int 0, .null, .null, .null, .null, .int 0]))], [(q2, .inr (1, [.null, .null, .null]))]]) rfl ?_
  refine zj_dup (pc := 19) C dX6_init_19 rfl ?_
  refine zj_callIn (pc := 20) C kv_X6_9 (m_X1_init) dX6_init_20 rfl rfl rfl rfl rfl [2] [0, 1] rfl rfl (fun v w1 hq => ?_) rfl
  obtain ⟨rfl, q2o, q2e, rfl⟩ := hq
  refine zj_cs 14 364 (by decide) (by decide) ?_
  refine zj_blk (bs' := [plan G q2o P00, plan G q1o P00, [(a, .inr (6, [.ref q1, .null, .null, .int 0, .null, .null, .null, .null, .int 0]))]]) rfl ?_
  refine pf_X6_1 (pc := 23) C hin dX6_init_23 2 rfl ?_
  refine zj_blk (bs' := [plan G q2o P00, plan G q1o P00, [(a, .inr (6, [.ref q1, .ref q2, .null, .int 0, .null, .null, .null, .null, .int 0]))]]) rfl ?_
  refine zj_aload_n (pc := 26) C dX6_init_26 rfl ?_
  refine zj_new (pc := 27) (ci := 1) (fs := [.null, .null, .null]) C iw_X1 tyX1 tyX1_ok aq_43 aq_44 qi_X1 rfl (fun j hj => by rcases (show j = 0 ∨ j = 1 ∨ j = 2 by omega) with rfl | rfl | rfl <;> rfl) rfl dX6_init_27 (fun q3 => ?_)
  refine zj_cs 15 367 (by decide) (by decide) ?_
  refine zj_blk (bs' := [plan G q2o P00, plan G q1o P00, [(a, .inr (6, [.ref q1, .ref q2, .null, .int 0, .null, .null, .null, .null, .int 0]))], [(q3, .inr (1, [.null, .null, .null]))]]) rfl ?_
  refine zj_dup (pc := 30) C dX6_init_30 rfl ?_
  refine zj_callIn (pc := 31) C kv_X6_9 (m_X1_init) dX6_init_31 rfl rfl rfl rfl rfl [3] [0, 1, 2] rfl rfl (fun v w1 hq => ?_) rfl
  obtain ⟨rfl, q3o, q3e, rfl⟩ := hq
  refine zj_cs 21 546 (by decide) (by decide) ?_
  refine zj_blk (bs' := [plan G q3o P00, plan G q2o P00, plan G q1o P00, [(a, .inr (6, [.ref q1, .ref q2, .null, .int 0, .null, .null, .null, .null, .int 0]))]]) rfl ?_
  refine pf_X6_2 (pc := 34) C hin dX6_init_34 3 rfl ?_
  refine zj_blk (bs' := [plan G q3o P00, plan G q2o P00, plan G q1o P00, [(a, .inr (6, [.ref q1, .ref q2, .ref q3, .int 0, .null, .null, .null, .null, .int 0]))]]) rfl ?_
  refine zj_aload_n (pc := 37) C dX6_init_37 rfl ?_
  refine zj_iconst (pc := 38) (v := 0) C dX6_init_38 (by decide) ?_
  refine pf_X6_3 (pc := 39) (x := false) C dX6_init_39 3 rfl ?_
  refine zj_blk (bs' := [plan G q3o P00, plan G q2o P00, plan G q1o P00, [(a, .inr (6, [.ref q1, .ref q2, .ref q3, .int (bI false), .null, .null, .null, .null, .int 0]))]]) rfl ?_
  refine zj_aload_n (pc := 42) C dX6_init_42 rfl ?_
  refine zj_new (pc := 43) (ci := 0) (fs := [.null, .int 0]) C iw_X0 tyX0 tyX0_ok aq_83 aq_84 qi_X0 rfl (fun j hj => by rcases (show j = 0 ∨ j = 1 by omega) with rfl | rfl <;> rfl) rfl dX6_init_43 (fun q4 => ?_)
  refine zj_cs 22 548 (by decide) (by decide) ?_
  refine zj_blk (bs' := [plan G q3o P00, plan G q2o P00, plan G q1o P00, [(a, .inr (6, [.ref q1, .ref q2, .ref q3, .int (bI false), .null, .null, .null, .null, .int 0]))], [(q4, .inr (0, [.null, .int 0]))]]) rfl ?_
  refine zj_dup (pc := 46) C dX6_init_46 rfl ?_
  refine zj_callIn (pc := 47) C kv_X6_28 (m_X0_init) dX6_init_47 rfl rfl rfl rfl rfl [4] [0, 1, 2, 3] rfl rfl (fun v w1 hq => ?_) rfl
  obtain ⟨rfl, q4o, q4q, q4e, rfl⟩ := hq
  refine zj_cs 51 1280 (by decide) (by decide) ?_
  refine zj_blk (bs' := [hist G q4o q4q (fun _ => P00) 0, plan G q3o P00, plan G q2o P00, plan G q1o P00, [(a, .inr (6, [.ref q1, .ref q2, .ref q3, .int (bI false), .null, .null, .null, .null, .int 0]))]]) rfl ?_
  refine pf_X6_4 (pc := 50) C hin dX6_init_50 4 rfl ?_
  refine zj_blk (bs' := [hist G q4o q4q (fun _ => P00) 0, plan G q3o P00, plan G q2o P00, plan G q1o P00, [(a, .inr (6, [.ref q1, .ref q2, .ref q3, .int (bI false), .ref q4, .null, .null, .null, .int 0]))]]) rfl ?_
  refine zj_aload_n (pc := 53) C dX6_init_53 rfl ?_
  refine zj_new (pc := 54) (ci := 3) (fs := [.null, .int 0, .int 0, .int 0, .int 0, .int 0, .int 0, .int 0, .int 0]) C iw_X3 tyX3 tyX3_ok aq_99 aq_100 qi_X3 rfl (fun j hj => by rcases (show j = 0 ∨ j = 1 ∨ j = 2 ∨ j = 3 ∨ j = 4 ∨ j = 5 ∨ j = 6 ∨ j = 7 ∨ j = 8 by omega) with rfl | rfl | rfl | rfl | rfl | rfl | rfl | rfl | rfl <;> rfl) rfl dX6_init_54 (fun q5 => ?_)
  refine zj_cs 52 1289 (by decide) (by decide) ?_
  refine zj_blk (bs' := [hist G q4o q4q (fun _ => P00) 0, plan G q3o P00, plan G q2o P00, plan G q1o P00, [(a, .inr (6, [.ref q1, .ref q2, .ref q3, .int (bI false), .ref q4, .null, .null, .null, .int 0]))], [(q5, .inr (3, [.null, .int 0, .int 0, .int 0, .int 0, .int 0, .int 0, .int 0, .int 0]))]]) rfl ?_
  refine zj_dup (pc := 57) C dX6_init_57 rfl ?_
  refine zj_callIn (pc := 58) C kv_X6_35 (m_X3_init) dX6_init_58 rfl rfl rfl rfl rfl [5] [0, 1, 2, 3, 4] rfl rfl (fun v w1 hq => ?_) rfl
  obtain ⟨rfl, q5b, rfl⟩ := hq
  refine zj_cs 53 1349 (by decide) (by decide) ?_
  refine zj_blk (bs' := [text G q5 q5b (fun _ => 0) 0 T00, hist G q4o q4q (fun _ => P00) 0, plan G q3o P00, plan G q2o P00, plan G q1o P00, [(a, .inr (6, [.ref q1, .ref q2, .ref q3, .int (bI false), .ref q4, .null, .null, .null, .int 0]))]]) rfl ?_
  refine pf_X6_5 (pc := 61) C hin dX6_init_61 5 rfl ?_
  refine zj_blk (bs' := [text G q5 q5b (fun _ => 0) 0 T00, hist G q4o q4q (fun _ => P00) 0, plan G q3o P00, plan G q2o P00, plan G q1o P00, [(a, .inr (6, [.ref q1, .ref q2, .ref q3, .int (bI false), .ref q4, .ref q5, .null, .null, .int 0]))]]) rfl ?_
  refine zj_aload_n (pc := 64) C dX6_init_64 rfl ?_
  refine zj_new (pc := 65) (ci := 4) (fs := [.null, .null, .null, .null, .null, .int 0]) C iw_X4 tyX4 tyX4_ok aq_134 aq_135 qi_X4 rfl (fun j hj => by rcases (show j = 0 ∨ j = 1 ∨ j = 2 ∨ j = 3 ∨ j = 4 ∨ j = 5 by omega) with rfl | rfl | rfl | rfl | rfl | rfl <;> rfl) rfl dX6_init_65 (fun q6 => ?_)
  refine zj_cs 54 1355 (by decide) (by decide) ?_
  refine zj_blk (bs' := [text G q5 q5b (fun _ => 0) 0 T00, hist G q4o q4q (fun _ => P00) 0, plan G q3o P00, plan G q2o P00, plan G q1o P00, [(a, .inr (6, [.ref q1, .ref q2, .ref q3, .int (bI false), .ref q4, .ref q5, .null, .null, .int 0]))], [(q6, .inr (4, [.null, .null, .null, .null, .null, .int 0]))]]) rfl ?_
  refine zj_dup (pc := 68) C dX6_init_68 rfl ?_
  refine zj_callIn (pc := 69) C kv_X6_42 (m_X4_init) dX6_init_69 rfl rfl rfl rfl rfl [6] [0, 1, 2, 3, 4, 5] rfl rfl (fun v w1 hq => ?_) rfl
  obtain ⟨rfl, q6o, q6e, rfl⟩ := hq
  refine zj_cs 64 2702 (by decide) (by decide) ?_
  refine zj_blk (bs' := [totT G q6o W00, text G q5 q5b (fun _ => 0) 0 T00, hist G q4o q4q (fun _ => P00) 0, plan G q3o P00, plan G q2o P00, plan G q1o P00, [(a, .inr (6, [.ref q1, .ref q2, .ref q3, .int (bI false), .ref q4, .ref q5, .null, .null, .int 0]))]]) rfl ?_
  refine pf_X6_6 (pc := 72) C hin dX6_init_72 6 rfl ?_
  refine zj_blk (bs' := [totT G q6o W00, text G q5 q5b (fun _ => 0) 0 T00, hist G q4o q4q (fun _ => P00) 0, plan G q3o P00, plan G q2o P00, plan G q1o P00, [(a, .inr (6, [.ref q1, .ref q2, .ref q3, .int (bI false), .ref q4, .ref q5, .ref q6, .null, .int 0]))]]) rfl ?_
  refine zj_aload_n (pc := 75) C dX6_init_75 rfl ?_
  refine zj_new (pc := 76) (ci := 4) (fs := [.null, .null, .null, .null, .null, .int 0]) C iw_X4 tyX4 tyX4_ok aq_134 aq_135 qi_X4 rfl (fun j hj => by rcases (show j = 0 ∨ j = 1 ∨ j = 2 ∨ j = 3 ∨ j = 4 ∨ j = 5 by omega) with rfl | rfl | rfl | rfl | rfl | rfl <;> rfl) rfl dX6_init_76 (fun q7 => ?_)
  refine zj_cs 65 2708 (by decide) (by decide) ?_
  refine zj_blk (bs' := [totT G q6o W00, text G q5 q5b (fun _ => 0) 0 T00, hist G q4o q4q (fun _ => P00) 0, plan G q3o P00, plan G q2o P00, plan G q1o P00, [(a, .inr (6, [.ref q1, .ref q2, .ref q3, .int (bI false), .ref q4, .ref q5, .ref q6, .null, .int 0]))], [(q7, .inr (4, [.null, .null, .null, .null, .null, .int 0]))]]) rfl ?_
  refine zj_dup (pc := 79) C dX6_init_79 rfl ?_
  refine zj_callIn (pc := 80) C kv_X6_42 (m_X4_init) dX6_init_80 rfl rfl rfl rfl rfl [7] [0, 1, 2, 3, 4, 5, 6] rfl rfl (fun v w1 hq => ?_) rfl
  obtain ⟨rfl, q7o, q7e, rfl⟩ := hq
  refine zj_cs 75 4055 (by decide) (by decide) ?_
  refine zj_blk (bs' := [totT G q7o W00, totT G q6o W00, text G q5 q5b (fun _ => 0) 0 T00, hist G q4o q4q (fun _ => P00) 0, plan G q3o P00, plan G q2o P00, plan G q1o P00, [(a, .inr (6, [.ref q1, .ref q2, .ref q3, .int (bI false), .ref q4, .ref q5, .ref q6, .null, .int 0]))]]) rfl ?_
  refine pf_X6_7 (pc := 83) C hin dX6_init_83 7 rfl ?_
  refine zj_blk (bs' := [totT G q7o W00, totT G q6o W00, text G q5 q5b (fun _ => 0) 0 T00, hist G q4o q4q (fun _ => P00) 0, plan G q3o P00, plan G q2o P00, plan G q1o P00, [(a, .inr (6, [.ref q1, .ref q2, .ref q3, .int (bI false), .ref q4, .ref q5, .ref q6, .ref q7, .int 0]))]]) rfl ?_
  refine zj_aload_n (pc := 86) C dX6_init_86 rfl ?_
  refine zj_iconst (pc := 87) (v := 1) C dX6_init_87 (by decide) ?_
  refine pf_X6_8 (pc := 88) (x := true) C dX6_init_88 7 rfl ?_
  refine zj_blk (bs' := [totT G q7o W00, totT G q6o W00, text G q5 q5b (fun _ => 0) 0 T00, hist G q4o q4q (fun _ => P00) 0, plan G q3o P00, plan G q2o P00, plan G q1o P00, [(a, .inr (6, [.ref q1, .ref q2, .ref q3, .int (bI false), .ref q4, .ref q5, .ref q6, .ref q7, .int (bI true)]))]]) rfl ?_
  refine zj_ord [7, 6, 5, 4, 3, 2, 1, 0] rfl ?_
  refine zj_vret C hr hlocks dX6_init_91 ?_
  rw [← q1e, ← q2e, ← q3e, ← q4e, ← q6e, ← q7e]
  refine ⟨rfl, (fun i j => match i with | 0 => a | 1 => q1o j | 2 => q2o j | 3 => q3o j | 4 => q4o j | 5 => (match j with | 0 => q5 | _ => q5b) | 6 => q6o j | _ => q7o j), q4q, rfl, ?_⟩
  show List.flatten _ = List.flatten _
  rfl
