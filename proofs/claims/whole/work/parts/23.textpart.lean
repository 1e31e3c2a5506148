theorem bI_or (b : Bool) (h : b = true) : bI (b || false) = bI true := by rw [h]; rfl
set_option maxRecDepth 100000 in
set_option maxHeartbeats 4000000 in
theorem m_X3_readAlleyPart {l : Launch} {G : GG} {a b n : Nat} {t : Nat → Nat} {s : Nat × Bool} {rl : Bool} {o o2 ln d : Nat} (hn : n ≤ 60) (hc : ∀ k, k < n → t k < 65536) (hs : s.1 ≤ 60) : zX l G yX3_readAlleyPart cX3_readAlleyPart 1 none 3 67 0 0 [.ref a] (text G a b t n (s, (rl, o, o2, ln, d))) (zF none (text G a b t n ((rdAl t n s).2, (false, (rdAl t n s).1.1, o2, (rdAl t n s).1.2.1, (rdAl t n s).1.2.2)))) := by
  refine zj_startF RX3 (by decide +kernel) rfl rfl rfl (bs := [[(a, .inr (3, [.ref b, .int (nI n), .int (nI s.1), .int (bI s.2), .int (bI rl), .int (nI o), .int (nI o2), .int (nI ln), .int (nI d)]))], [(b, .inl (G.2 1, 60, .inl (fun k => nI (t k))))]]) rfl (lo := [some (.ref a)]) rfl ?_
  intro p0 e0 s0 m0 args0 below0 meth0 c0 A0 C hr hlocks
  refine zj_aload_n (pc := 0) C dX3_readAlleyPart_0 rfl ?_
  refine zj_iconst (pc := 1) (v := 0) C dX3_readAlleyPart_1 (by decide) ?_
  refine pf_X3_4 (pc := 2) (x := false) C dX3_readAlleyPart_2 0 rfl ?_
  refine zj_blk (bs' := [[(a, .inr (3, [.ref b, .int (nI n), .int (nI s.1), .int (bI s.2), .int (bI false), .int (nI o), .int (nI o2), .int (nI ln), .int (nI d)]))], [(b, .inl (G.2 1, 60, .inl (fun k => nI (t k))))]]) rfl ?_
  refine zj_aload_n (pc := 5) C dX3_readAlleyPart_5 rfl ?_
  refine zj_bipush (pc := 6) (v := 97) C dX3_readAlleyPart_6 (by decide) ?_
  refine zj_callA (pc := 8) C kv_X3_61 (m_X3_readSign (cc := 97) (s := s) hn hc hs (by decide)) dX3_readAlleyPart_8 [0, 1] [] rfl rfl rfl rfl rfl rfl rfl rfl ⟨0, rfl⟩ rfl rfl (fun v w1 hq => ?_)
  obtain ⟨rfl, rfl⟩ := hq
  refine zj_blk (bs' := [[(a, .inr (3, [.ref b, .int (nI n), .int (nI (rdS t n 97 s).1), .int (bI (rdS t n 97 s).2), .int (bI false), .int (nI o), .int (nI o2), .int (nI ln), .int (nI d)]))], [(b, .inl (G.2 1, 60, .inl (fun k => nI (t k))))]]) rfl ?_
  refine zj_aload_n (pc := 11) C dX3_readAlleyPart_11 rfl ?_
  refine zj_aload_n (pc := 12) C dX3_readAlleyPart_12 rfl ?_
  refine zj_iconst (pc := 13) (v := 0) C dX3_readAlleyPart_13 (by decide) ?_
  refine zj_bipush (pc := 14) (v := 13) C dX3_readAlleyPart_14 (by decide) ?_
  refine zj_callA (pc := 16) C kv_X3_65 (m_X3_readNumber (s := (rdS t n 97 s)) (lo := 0) (hi := 13) hn hc (rdS_le hs hn) (by decide) (by decide)) dX3_readAlleyPart_16 [0, 1] [] rfl rfl rfl rfl rfl rfl rfl rfl ⟨0, rfl⟩ rfl rfl (fun v w1 hq => ?_)
  obtain ⟨rfl, rfl⟩ := hq
  refine zj_blk (bs' := [[(a, .inr (3, [.ref b, .int (nI n), .int (nI (rdN t n 0 13 (rdS t n 97 s)).2.1), .int (bI (rdN t n 0 13 (rdS t n 97 s)).2.2), .int (bI false), .int (nI o), .int (nI o2), .int (nI ln), .int (nI d)]))], [(b, .inl (G.2 1, 60, .inl (fun k => nI (t k))))]]) rfl ?_
  refine zj_stk (st' := [.int (nI (rdN t n 0 13 (rdS t n 97 s)).1), .ref a]) rfl ?_
  refine pf_X3_5 (pc := 19) C dX3_readAlleyPart_19 0 rfl ?_
  refine zj_blk (bs' := [[(a, .inr (3, [.ref b, .int (nI n), .int (nI (rdN t n 0 13 (rdS t n 97 s)).2.1), .int (bI (rdN t n 0 13 (rdS t n 97 s)).2.2), .int (bI false), .int (nI (rdN t n 0 13 (rdS t n 97 s)).1), .int (nI o2), .int (nI ln), .int (nI d)]))], [(b, .inl (G.2 1, 60, .inl (fun k => nI (t k))))]]) rfl ?_
  refine zj_aload_n (pc := 22) C dX3_readAlleyPart_22 rfl ?_
  refine zj_bipush (pc := 23) (v := 43) C dX3_readAlleyPart_23 (by decide) ?_
  refine zj_callA (pc := 25) C kv_X3_61 (m_X3_readSign (cc := 43) (s := (rdN t n 0 13 (rdS t n 97 s)).2) hn hc (rdN_le (rdS_le hs hn) hn) (by decide)) dX3_readAlleyPart_25 [0, 1] [] rfl rfl rfl rfl rfl rfl rfl rfl ⟨0, rfl⟩ rfl rfl (fun v w1 hq => ?_)
  obtain ⟨rfl, rfl⟩ := hq
  refine zj_blk (bs' := [[(a, .inr (3, [.ref b, .int (nI n), .int (nI (rdS t n 43 (rdN t n 0 13 (rdS t n 97 s)).2).1), .int (bI (rdS t n 43 (rdN t n 0 13 (rdS t n 97 s)).2).2), .int (bI false), .int (nI (rdN t n 0 13 (rdS t n 97 s)).1), .int (nI o2), .int (nI ln), .int (nI d)]))], [(b, .inl (G.2 1, 60, .inl (fun k => nI (t k))))]]) rfl ?_
  refine zj_aload_n (pc := 28) C dX3_readAlleyPart_28 rfl ?_
  refine zj_aload_n (pc := 29) C dX3_readAlleyPart_29 rfl ?_
  refine zj_iconst (pc := 30) (v := 0) C dX3_readAlleyPart_30 (by decide) ?_
  refine zj_bipush (pc := 31) (v := 20) C dX3_readAlleyPart_31 (by decide) ?_
  refine zj_callA (pc := 33) C kv_X3_65 (m_X3_readNumber (s := (rdS t n 43 (rdN t n 0 13 (rdS t n 97 s)).2)) (lo := 0) (hi := 20) hn hc (rdS_le (rdN_le (rdS_le hs hn) hn) hn) (by decide) (by decide)) dX3_readAlleyPart_33 [0, 1] [] rfl rfl rfl rfl rfl rfl rfl rfl ⟨0, rfl⟩ rfl rfl (fun v w1 hq => ?_)
  obtain ⟨rfl, rfl⟩ := hq
  refine zj_blk (bs' := [[(a, .inr (3, [.ref b, .int (nI n), .int (nI (rdN t n 0 20 (rdS t n 43 (rdN t n 0 13 (rdS t n 97 s)).2)).2.1), .int (bI (rdN t n 0 20 (rdS t n 43 (rdN t n 0 13 (rdS t n 97 s)).2)).2.2), .int (bI false), .int (nI (rdN t n 0 13 (rdS t n 97 s)).1), .int (nI o2), .int (nI ln), .int (nI d)]))], [(b, .inl (G.2 1, 60, .inl (fun k => nI (t k))))]]) rfl ?_
  refine zj_stk (st' := [.int (nI (rdN t n 0 20 (rdS t n 43 (rdN t n 0 13 (rdS t n 97 s)).2)).1), .ref a]) rfl ?_
  refine pf_X3_7 (pc := 36) C dX3_readAlleyPart_36 0 rfl ?_
  refine zj_blk (bs' := [[(a, .inr (3, [.ref b, .int (nI n), .int (nI (rdN t n 0 20 (rdS t n 43 (rdN t n 0 13 (rdS t n 97 s)).2)).2.1), .int (bI (rdN t n 0 20 (rdS t n 43 (rdN t n 0 13 (rdS t n 97 s)).2)).2.2), .int (bI false), .int (nI (rdN t n 0 13 (rdS t n 97 s)).1), .int (nI o2), .int (nI (rdN t n 0 20 (rdS t n 43 (rdN t n 0 13 (rdS t n 97 s)).2)).1), .int (nI d)]))], [(b, .inl (G.2 1, 60, .inl (fun k => nI (t k))))]]) rfl ?_
  refine zj_aload_n (pc := 39) C dX3_readAlleyPart_39 rfl ?_
  refine zj_bipush (pc := 40) (v := 58) C dX3_readAlleyPart_40 (by decide) ?_
  refine zj_callA (pc := 42) C kv_X3_61 (m_X3_readSign (cc := 58) (s := (rdN t n 0 20 (rdS t n 43 (rdN t n 0 13 (rdS t n 97 s)).2)).2) hn hc (rdN_le (rdS_le (rdN_le (rdS_le hs hn) hn) hn) hn) (by decide)) dX3_readAlleyPart_42 [0, 1] [] rfl rfl rfl rfl rfl rfl rfl rfl ⟨0, rfl⟩ rfl rfl (fun v w1 hq => ?_)
  obtain ⟨rfl, rfl⟩ := hq
  refine zj_blk (bs' := [[(a, .inr (3, [.ref b, .int (nI n), .int (nI (rdS t n 58 (rdN t n 0 20 (rdS t n 43 (rdN t n 0 13 (rdS t n 97 s)).2)).2).1), .int (bI (rdS t n 58 (rdN t n 0 20 (rdS t n 43 (rdN t n 0 13 (rdS t n 97 s)).2)).2).2), .int (bI false), .int (nI (rdN t n 0 13 (rdS t n 97 s)).1), .int (nI o2), .int (nI (rdN t n 0 20 (rdS t n 43 (rdN t n 0 13 (rdS t n 97 s)).2)).1), .int (nI d)]))], [(b, .inl (G.2 1, 60, .inl (fun k => nI (t k))))]]) rfl ?_
  refine zj_aload_n (pc := 45) C dX3_readAlleyPart_45 rfl ?_
  refine zj_aload_n (pc := 46) C dX3_readAlleyPart_46 rfl ?_
  refine zj_iconst (pc := 47) (v := 0) C dX3_readAlleyPart_47 (by decide) ?_
  refine zj_iconst (pc := 48) (v := 3) C dX3_readAlleyPart_48 (by decide) ?_
  refine zj_callA (pc := 49) C kv_X3_65 (m_X3_readNumber (s := (rdS t n 58 (rdN t n 0 20 (rdS t n 43 (rdN t n 0 13 (rdS t n 97 s)).2)).2)) (lo := 0) (hi := 3) hn hc (rdS_le (rdN_le (rdS_le (rdN_le (rdS_le hs hn) hn) hn) hn) hn) (by decide) (by decide)) dX3_readAlleyPart_49 [0, 1] [] rfl rfl rfl rfl rfl rfl rfl rfl ⟨0, rfl⟩ rfl rfl (fun v w1 hq => ?_)
  obtain ⟨rfl, rfl⟩ := hq
  refine zj_blk (bs' := [[(a, .inr (3, [.ref b, .int (nI n), .int (nI (rdN t n 0 3 (rdS t n 58 (rdN t n 0 20 (rdS t n 43 (rdN t n 0 13 (rdS t n 97 s)).2)).2)).2.1), .int (bI (rdN t n 0 3 (rdS t n 58 (rdN t n 0 20 (rdS t n 43 (rdN t n 0 13 (rdS t n 97 s)).2)).2)).2.2), .int (bI false), .int (nI (rdN t n 0 13 (rdS t n 97 s)).1), .int (nI o2), .int (nI (rdN t n 0 20 (rdS t n 43 (rdN t n 0 13 (rdS t n 97 s)).2)).1), .int (nI d)]))], [(b, .inl (G.2 1, 60, .inl (fun k => nI (t k))))]]) rfl ?_
  refine zj_stk (st' := [.int (nI (rdN t n 0 3 (rdS t n 58 (rdN t n 0 20 (rdS t n 43 (rdN t n 0 13 (rdS t n 97 s)).2)).2)).1), .ref a]) rfl ?_
  refine pf_X3_8 (pc := 52) C dX3_readAlleyPart_52 0 rfl ?_
  refine zj_blk (bs' := [[(a, .inr (3, [.ref b, .int (nI n), .int (nI (rdN t n 0 3 (rdS t n 58 (rdN t n 0 20 (rdS t n 43 (rdN t n 0 13 (rdS t n 97 s)).2)).2)).2.1), .int (bI (rdN t n 0 3 (rdS t n 58 (rdN t n 0 20 (rdS t n 43 (rdN t n 0 13 (rdS t n 97 s)).2)).2)).2.2), .int (bI false), .int (nI (rdN t n 0 13 (rdS t n 97 s)).1), .int (nI o2), .int (nI (rdN t n 0 20 (rdS t n 43 (rdN t n 0 13 (rdS t n 97 s)).2)).1), .int (nI (rdN t n 0 3 (rdS t n 58 (rdN t n 0 20 (rdS t n 43 (rdN t n 0 13 (rdS t n 97 s)).2)).2)).1)]))], [(b, .inl (G.2 1, 60, .inl (fun k => nI (t k))))]]) rfl ?_
  refine zj_vretF C hr hlocks dX3_readAlleyPart_55 ?_
  exact rfl
set_option maxRecDepth 100000 in
set_option maxHeartbeats 4000000 in
theorem m_X3_readLanePart {l : Launch} {G : GG} {a b n : Nat} {t : Nat → Nat} {s : Nat × Bool} {rl : Bool} {o o2 ln d : Nat} (hn : n ≤ 60) (hc : ∀ k, k < n → t k < 65536) (hs : s.1 ≤ 60) : zX l G yX3_readLanePart cX3_readLanePart 1 none 3 67 0 0 [.ref a] (text G a b t n (s, (rl, o, o2, ln, d))) (zF none (text G a b t n ((rdLn t n s).2, (true, (rdLn t n s).1.1, (rdLn t n s).1.2.1, (rdLn t n s).1.2.2.1, (rdLn t n s).1.2.2.2)))) := by
  refine zj_startF RX3 (by decide +kernel) rfl rfl rfl (bs := [[(a, .inr (3, [.ref b, .int (nI n), .int (nI s.1), .int (bI s.2), .int (bI rl), .int (nI o), .int (nI o2), .int (nI ln), .int (nI d)]))], [(b, .inl (G.2 1, 60, .inl (fun k => nI (t k))))]]) rfl (lo := [some (.ref a)]) rfl ?_
  intro p0 e0 s0 m0 args0 below0 meth0 c0 A0 C hr hlocks
  refine zj_aload_n (pc := 0) C dX3_readLanePart_0 rfl ?_
  refine zj_iconst (pc := 1) (v := 1) C dX3_readLanePart_1 (by decide) ?_
  refine pf_X3_4 (pc := 2) (x := true) C dX3_readLanePart_2 0 rfl ?_
  refine zj_blk (bs' := [[(a, .inr (3, [.ref b, .int (nI n), .int (nI s.1), .int (bI s.2), .int (bI true), .int (nI o), .int (nI o2), .int (nI ln), .int (nI d)]))], [(b, .inl (G.2 1, 60, .inl (fun k => nI (t k))))]]) rfl ?_
  refine zj_aload_n (pc := 5) C dX3_readLanePart_5 rfl ?_
  refine zj_aload_n (pc := 6) C dX3_readLanePart_6 rfl ?_
  refine zj_iconst (pc := 7) (v := 0) C dX3_readLanePart_7 (by decide) ?_
  refine zj_bipush (pc := 8) (v := 13) C dX3_readLanePart_8 (by decide) ?_
  refine zj_callA (pc := 10) C kv_X3_65 (m_X3_readNumber (s := s) (lo := 0) (hi := 13) hn hc hs (by decide) (by decide)) dX3_readLanePart_10 [0, 1] [] rfl rfl rfl rfl rfl rfl rfl rfl ⟨0, rfl⟩ rfl rfl (fun v w1 hq => ?_)
  obtain ⟨rfl, rfl⟩ := hq
  refine zj_blk (bs' := [[(a, .inr (3, [.ref b, .int (nI n), .int (nI (rdN t n 0 13 s).2.1), .int (bI (rdN t n 0 13 s).2.2), .int (bI true), .int (nI o), .int (nI o2), .int (nI ln), .int (nI d)]))], [(b, .inl (G.2 1, 60, .inl (fun k => nI (t k))))]]) rfl ?_
  refine zj_stk (st' := [.int (nI (rdN t n 0 13 s).1), .ref a]) rfl ?_
  refine pf_X3_5 (pc := 13) C dX3_readLanePart_13 0 rfl ?_
  refine zj_blk (bs' := [[(a, .inr (3, [.ref b, .int (nI n), .int (nI (rdN t n 0 13 s).2.1), .int (bI (rdN t n 0 13 s).2.2), .int (bI true), .int (nI (rdN t n 0 13 s).1), .int (nI o2), .int (nI ln), .int (nI d)]))], [(b, .inl (G.2 1, 60, .inl (fun k => nI (t k))))]]) rfl ?_
  refine zj_aload_n (pc := 16) C dX3_readLanePart_16 rfl ?_
  refine zj_bipush (pc := 17) (v := 45) C dX3_readLanePart_17 (by decide) ?_
  refine zj_callA (pc := 19) C kv_X3_61 (m_X3_readSign (cc := 45) (s := (rdN t n 0 13 s).2) hn hc (rdN_le hs hn) (by decide)) dX3_readLanePart_19 [0, 1] [] rfl rfl rfl rfl rfl rfl rfl rfl ⟨0, rfl⟩ rfl rfl (fun v w1 hq => ?_)
  obtain ⟨rfl, rfl⟩ := hq
  refine zj_blk (bs' := [[(a, .inr (3, [.ref b, .int (nI n), .int (nI (rdS t n 45 (rdN t n 0 13 s).2).1), .int (bI (rdS t n 45 (rdN t n 0 13 s).2).2), .int (bI true), .int (nI (rdN t n 0 13 s).1), .int (nI o2), .int (nI ln), .int (nI d)]))], [(b, .inl (G.2 1, 60, .inl (fun k => nI (t k))))]]) rfl ?_
  refine zj_aload_n (pc := 22) C dX3_readLanePart_22 rfl ?_
  refine zj_aload_n (pc := 23) C dX3_readLanePart_23 rfl ?_
  refine zj_iconst (pc := 24) (v := 0) C dX3_readLanePart_24 (by decide) ?_
  refine zj_bipush (pc := 25) (v := 13) C dX3_readLanePart_25 (by decide) ?_
  refine zj_callA (pc := 27) C kv_X3_65 (m_X3_readNumber (s := (rdS t n 45 (rdN t n 0 13 s).2)) (lo := 0) (hi := 13) hn hc (rdS_le (rdN_le hs hn) hn) (by decide) (by decide)) dX3_readLanePart_27 [0, 1] [] rfl rfl rfl rfl rfl rfl rfl rfl ⟨0, rfl⟩ rfl rfl (fun v w1 hq => ?_)
  obtain ⟨rfl, rfl⟩ := hq
  refine zj_blk (bs' := [[(a, .inr (3, [.ref b, .int (nI n), .int (nI (rdN t n 0 13 (rdS t n 45 (rdN t n 0 13 s).2)).2.1), .int (bI (rdN t n 0 13 (rdS t n 45 (rdN t n 0 13 s).2)).2.2), .int (bI true), .int (nI (rdN t n 0 13 s).1), .int (nI o2), .int (nI ln), .int (nI d)]))], [(b, .inl (G.2 1, 60, .inl (fun k => nI (t k))))]]) rfl ?_
  refine zj_stk (st' := [.int (nI (rdN t n 0 13 (rdS t n 45 (rdN t n 0 13 s).2)).1), .ref a]) rfl ?_
  refine pf_X3_6 (pc := 30) C dX3_readLanePart_30 0 rfl ?_
  refine zj_blk (bs' := [[(a, .inr (3, [.ref b, .int (nI n), .int (nI (rdN t n 0 13 (rdS t n 45 (rdN t n 0 13 s).2)).2.1), .int (bI (rdN t n 0 13 (rdS t n 45 (rdN t n 0 13 s).2)).2.2), .int (bI true), .int (nI (rdN t n 0 13 s).1), .int (nI (rdN t n 0 13 (rdS t n 45 (rdN t n 0 13 s).2)).1), .int (nI ln), .int (nI d)]))], [(b, .inl (G.2 1, 60, .inl (fun k => nI (t k))))]]) rfl ?_
  refine zj_aload_n (pc := 33) C dX3_readLanePart_33 rfl ?_
  refine zj_bipush (pc := 34) (v := 42) C dX3_readLanePart_34 (by decide) ?_
  refine zj_callA (pc := 36) C kv_X3_61 (m_X3_readSign (cc := 42) (s := (rdN t n 0 13 (rdS t n 45 (rdN t n 0 13 s).2)).2) hn hc (rdN_le (rdS_le (rdN_le hs hn) hn) hn) (by decide)) dX3_readLanePart_36 [0, 1] [] rfl rfl rfl rfl rfl rfl rfl rfl ⟨0, rfl⟩ rfl rfl (fun v w1 hq => ?_)
  obtain ⟨rfl, rfl⟩ := hq
  refine zj_blk (bs' := [[(a, .inr (3, [.ref b, .int (nI n), .int (nI (rdS t n 42 (rdN t n 0 13 (rdS t n 45 (rdN t n 0 13 s).2)).2).1), .int (bI (rdS t n 42 (rdN t n 0 13 (rdS t n 45 (rdN t n 0 13 s).2)).2).2), .int (bI true), .int (nI (rdN t n 0 13 s).1), .int (nI (rdN t n 0 13 (rdS t n 45 (rdN t n 0 13 s).2)).1), .int (nI ln), .int (nI d)]))], [(b, .inl (G.2 1, 60, .inl (fun k => nI (t k))))]]) rfl ?_
  refine zj_aload_n (pc := 39) C dX3_readLanePart_39 rfl ?_
  refine zj_aload_n (pc := 40) C dX3_readLanePart_40 rfl ?_
  refine zj_iconst (pc := 41) (v := 1) C dX3_readLanePart_41 (by decide) ?_
  refine zj_bipush (pc := 42) (v := 20) C dX3_readLanePart_42 (by decide) ?_
  refine zj_callA (pc := 44) C kv_X3_65 (m_X3_readNumber (s := (rdS t n 42 (rdN t n 0 13 (rdS t n 45 (rdN t n 0 13 s).2)).2)) (lo := 1) (hi := 20) hn hc (rdS_le (rdN_le (rdS_le (rdN_le hs hn) hn) hn) hn) (by decide) (by decide)) dX3_readLanePart_44 [0, 1] [] rfl rfl rfl rfl rfl rfl rfl rfl ⟨0, rfl⟩ rfl rfl (fun v w1 hq => ?_)
  obtain ⟨rfl, rfl⟩ := hq
  refine zj_blk (bs' := [[(a, .inr (3, [.ref b, .int (nI n), .int (nI (rdN t n 1 20 (rdS t n 42 (rdN t n 0 13 (rdS t n 45 (rdN t n 0 13 s).2)).2)).2.1), .int (bI (rdN t n 1 20 (rdS t n 42 (rdN t n 0 13 (rdS t n 45 (rdN t n 0 13 s).2)).2)).2.2), .int (bI true), .int (nI (rdN t n 0 13 s).1), .int (nI (rdN t n 0 13 (rdS t n 45 (rdN t n 0 13 s).2)).1), .int (nI ln), .int (nI d)]))], [(b, .inl (G.2 1, 60, .inl (fun k => nI (t k))))]]) rfl ?_
  refine zj_stk (st' := [.int (nI (rdN t n 1 20 (rdS t n 42 (rdN t n 0 13 (rdS t n 45 (rdN t n 0 13 s).2)).2)).1), .ref a]) rfl ?_
  refine pf_X3_7 (pc := 47) C dX3_readLanePart_47 0 rfl ?_
  refine zj_blk (bs' := [[(a, .inr (3, [.ref b, .int (nI n), .int (nI (rdN t n 1 20 (rdS t n 42 (rdN t n 0 13 (rdS t n 45 (rdN t n 0 13 s).2)).2)).2.1), .int (bI (rdN t n 1 20 (rdS t n 42 (rdN t n 0 13 (rdS t n 45 (rdN t n 0 13 s).2)).2)).2.2), .int (bI true), .int (nI (rdN t n 0 13 s).1), .int (nI (rdN t n 0 13 (rdS t n 45 (rdN t n 0 13 s).2)).1), .int (nI (rdN t n 1 20 (rdS t n 42 (rdN t n 0 13 (rdS t n 45 (rdN t n 0 13 s).2)).2)).1), .int (nI d)]))], [(b, .inl (G.2 1, 60, .inl (fun k => nI (t k))))]]) rfl ?_
  refine zj_aload_n (pc := 50) C dX3_readLanePart_50 rfl ?_
  refine zj_bipush (pc := 51) (v := 58) C dX3_readLanePart_51 (by decide) ?_
  refine zj_callA (pc := 53) C kv_X3_61 (m_X3_readSign (cc := 58) (s := (rdN t n 1 20 (rdS t n 42 (rdN t n 0 13 (rdS t n 45 (rdN t n 0 13 s).2)).2)).2) hn hc (rdN_le (rdS_le (rdN_le (rdS_le (rdN_le hs hn) hn) hn) hn) hn) (by decide)) dX3_readLanePart_53 [0, 1] [] rfl rfl rfl rfl rfl rfl rfl rfl ⟨0, rfl⟩ rfl rfl (fun v w1 hq => ?_)
  obtain ⟨rfl, rfl⟩ := hq
  refine zj_blk (bs' := [[(a, .inr (3, [.ref b, .int (nI n), .int (nI (rdS t n 58 (rdN t n 1 20 (rdS t n 42 (rdN t n 0 13 (rdS t n 45 (rdN t n 0 13 s).2)).2)).2).1), .int (bI (rdS t n 58 (rdN t n 1 20 (rdS t n 42 (rdN t n 0 13 (rdS t n 45 (rdN t n 0 13 s).2)).2)).2).2), .int (bI true), .int (nI (rdN t n 0 13 s).1), .int (nI (rdN t n 0 13 (rdS t n 45 (rdN t n 0 13 s).2)).1), .int (nI (rdN t n 1 20 (rdS t n 42 (rdN t n 0 13 (rdS t n 45 (rdN t n 0 13 s).2)).2)).1), .int (nI d)]))], [(b, .inl (G.2 1, 60, .inl (fun k => nI (t k))))]]) rfl ?_
  refine zj_aload_n (pc := 56) C dX3_readLanePart_56 rfl ?_
  refine zj_aload_n (pc := 57) C dX3_readLanePart_57 rfl ?_
  refine zj_iconst (pc := 58) (v := 0) C dX3_readLanePart_58 (by decide) ?_
  refine zj_iconst (pc := 59) (v := 3) C dX3_readLanePart_59 (by decide) ?_
  refine zj_callA (pc := 60) C kv_X3_65 (m_X3_readNumber (s := (rdS t n 58 (rdN t n 1 20 (rdS t n 42 (rdN t n 0 13 (rdS t n 45 (rdN t n 0 13 s).2)).2)).2)) (lo := 0) (hi := 3) hn hc (rdS_le (rdN_le (rdS_le (rdN_le (rdS_le (rdN_le hs hn) hn) hn) hn) hn) hn) (by decide) (by decide)) dX3_readLanePart_60 [0, 1] [] rfl rfl rfl rfl rfl rfl rfl rfl ⟨0, rfl⟩ rfl rfl (fun v w1 hq => ?_)
  obtain ⟨rfl, rfl⟩ := hq
  refine zj_blk (bs' := [[(a, .inr (3, [.ref b, .int (nI n), .int (nI (rdN t n 0 3 (rdS t n 58 (rdN t n 1 20 (rdS t n 42 (rdN t n 0 13 (rdS t n 45 (rdN t n 0 13 s).2)).2)).2)).2.1), .int (bI (rdN t n 0 3 (rdS t n 58 (rdN t n 1 20 (rdS t n 42 (rdN t n 0 13 (rdS t n 45 (rdN t n 0 13 s).2)).2)).2)).2.2), .int (bI true), .int (nI (rdN t n 0 13 s).1), .int (nI (rdN t n 0 13 (rdS t n 45 (rdN t n 0 13 s).2)).1), .int (nI (rdN t n 1 20 (rdS t n 42 (rdN t n 0 13 (rdS t n 45 (rdN t n 0 13 s).2)).2)).1), .int (nI d)]))], [(b, .inl (G.2 1, 60, .inl (fun k => nI (t k))))]]) rfl ?_
  refine zj_stk (st' := [.int (nI (rdN t n 0 3 (rdS t n 58 (rdN t n 1 20 (rdS t n 42 (rdN t n 0 13 (rdS t n 45 (rdN t n 0 13 s).2)).2)).2)).1), .ref a]) rfl ?_
  refine pf_X3_8 (pc := 63) C dX3_readLanePart_63 0 rfl ?_
  refine zj_blk (bs' := [[(a, .inr (3, [.ref b, .int (nI n), .int (nI (rdN t n 0 3 (rdS t n 58 (rdN t n 1 20 (rdS t n 42 (rdN t n 0 13 (rdS t n 45 (rdN t n 0 13 s).2)).2)).2)).2.1), .int (bI (rdN t n 0 3 (rdS t n 58 (rdN t n 1 20 (rdS t n 42 (rdN t n 0 13 (rdS t n 45 (rdN t n 0 13 s).2)).2)).2)).2.2), .int (bI true), .int (nI (rdN t n 0 13 s).1), .int (nI (rdN t n 0 13 (rdS t n 45 (rdN t n 0 13 s).2)).1), .int (nI (rdN t n 1 20 (rdS t n 42 (rdN t n 0 13 (rdS t n 45 (rdN t n 0 13 s).2)).2)).1), .int (nI (rdN t n 0 3 (rdS t n 58 (rdN t n 1 20 (rdS t n 42 (rdN t n 0 13 (rdS t n 45 (rdN t n 0 13 s).2)).2)).2)).1)]))], [(b, .inl (G.2 1, 60, .inl (fun k => nI (t k))))]]) rfl ?_
  refine zj_vretF C hr hlocks dX3_readLanePart_66 ?_
  exact rfl
set_option maxRecDepth 100000 in
set_option maxHeartbeats 4000000 in
theorem m_X3_readPart {l : Launch} {G : GG} {a b n : Nat} {t : Nat → Nat} {s : Nat × Bool} {rl : Bool} {o o2 ln d : Nat} (hn : n ≤ 60) (hc : ∀ k, k < n → t k < 65536) (hs : s.1 ≤ 60) : zX l G yX3_readPart cX3_readPart 1 none 4 87 0 0 [.ref a] (text G a b t n (s, (rl, o, o2, ln, d))) (zF none (text G a b t n (rdP t n (s, (rl, o, o2, ln, d))))) := by
  refine zj_startF RX3 (by decide +kernel) rfl rfl rfl (bs := [[(a, .inr (3, [.ref b, .int (nI n), .int (nI s.1), .int (bI s.2), .int (bI rl), .int (nI o), .int (nI o2), .int (nI ln), .int (nI d)]))], [(b, .inl (G.2 1, 60, .inl (fun k => nI (t k))))]]) rfl (lo := [some (.ref a)]) rfl ?_
  intro p0 e0 s0 m0 args0 below0 meth0 c0 A0 C hr hlocks
  refine zj_aload_n (pc := 0) C dX3_readPart_0 rfl ?_
  refine zj_aload_n (pc := 1) C dX3_readPart_1 rfl ?_
  refine gf_X3_2 (pc := 2) C dX3_readPart_2 0 rfl ?_
  refine zj_callPA (pc := 5) C kv_X3_51 (m_X3_signAt hn (by omega)) dX3_readPart_5 [0, 1] [] rfl rfl rfl rfl rfl rfl rfl rfl ⟨0, rfl⟩ rfl rfl ?_
  refine zj_top (x' := sgI t n s.1) rfl ?_
  refine zj_bipush (pc := 8) (v := 97) C dX3_readPart_8 (by decide) ?_
  refine zj_icmp_ne (pc := 10) 20 C dX3_readPart_10 (by decide) (fun c_10 => ?_) (fun c_10 => ?_)
  · refine zj_aload_n (pc := 20) C dX3_readPart_20 rfl ?_
    refine zj_callA (pc := 21) C kv_X3_58 (m_X3_readLanePart (s := s) hn hc hs) dX3_readPart_21 [0, 1] [] rfl rfl rfl rfl rfl rfl rfl rfl ⟨0, rfl⟩ rfl rfl (fun v w1 hq => ?_)
    obtain ⟨rfl, rfl⟩ := hq
    refine zj_blk (bs' := [[(a, .inr (3, [.ref b, .int (nI n), .int (nI (rdLn t n s).2.1), .int (bI (rdLn t n s).2.2), .int (bI true), .int (nI (rdLn t n s).1.1), .int (nI (rdLn t n s).1.2.1), .int (nI (rdLn t n s).1.2.2.1), .int (nI (rdLn t n s).1.2.2.2)]))], [(b, .inl (G.2 1, 60, .inl (fun k => nI (t k))))]]) rfl ?_
    refine zj_aload_n (pc := 24) C dX3_readPart_24 rfl ?_
    refine gf_X3_3 (pc := 25) C dX3_readPart_25 0 rfl ?_
    refine zj_ifb_ne (pc := 28) 67 C dX3_readPart_28 (by decide) (fun c_28 => ?_) (fun c_28 => ?_)
    · refine zj_vretF C hr hlocks dX3_readPart_67 ?_
      have hA9 : isA t n s = false := by
        unfold isA
        by_cases hlt : s.1 < n
        · rw [sgI, if_pos hlt, show (97 : Int32) = nI 97 from rfl, nI_eq (by have := hc _ hlt; omega) (by decide)] at c_10
          simp [c_10]
        · simp [hlt]
      have hS9 : sepS t n (rdLn t n s).2 = (rdLn t n s).2 := if_neg (by rw [c_28]; simp)
      have hE9 : rdP t n (s, (rl, o, o2, ln, d)) = (sepS t n (rdLn t n s).2, (true, (rdLn t n s).1.1, (rdLn t n s).1.2.1, (rdLn t n s).1.2.2.1, (rdLn t n s).1.2.2.2)) := by
        unfold rdP
        rw [show isA t n (s, (rl, o, o2, ln, d)).1 = false from hA9]
        rfl
      rw [hE9, hS9]
      exact rfl
    · refine zj_aload_n (pc := 31) C dX3_readPart_31 rfl ?_
      refine zj_callPA (pc := 32) C kv_X3_47 (m_X3_hasMore (s := (rdLn t n s).2) hn (rdLn_le hs hn)) dX3_readPart_32 [0, 1] [] rfl rfl rfl rfl rfl rfl rfl rfl ⟨0, rfl⟩ rfl rfl ?_
      refine zj_ifb_eq (pc := 35) 67 C dX3_readPart_35 (by decide) (fun c_35 => ?_) (fun c_35 => ?_)
      · refine zj_vretF C hr hlocks dX3_readPart_67 ?_
        have hA9 : isA t n s = false := by
          unfold isA
          by_cases hlt : s.1 < n
          · rw [sgI, if_pos hlt, show (97 : Int32) = nI 97 from rfl, nI_eq (by have := hc _ hlt; omega) (by decide)] at c_10
            simp [c_10]
          · simp [hlt]
        have hS9 : sepS t n (rdLn t n s).2 = (rdLn t n s).2 := if_neg (fun h => by have := of_decide_eq_false c_35; exact this h.2)
        have hE9 : rdP t n (s, (rl, o, o2, ln, d)) = (sepS t n (rdLn t n s).2, (true, (rdLn t n s).1.1, (rdLn t n s).1.2.1, (rdLn t n s).1.2.2.1, (rdLn t n s).1.2.2.2)) := by
          unfold rdP
          rw [show isA t n (s, (rl, o, o2, ln, d)).1 = false from hA9]
          rfl
        rw [hE9, hS9]
        exact rfl
      · refine zj_aload_n (pc := 38) C dX3_readPart_38 rfl ?_
        refine zj_bipush (pc := 39) (v := 59) C dX3_readPart_39 (by decide) ?_
        refine zj_callA (pc := 41) C kv_X3_61 (m_X3_readSign (cc := 59) (s := (rdLn t n s).2) hn hc (rdLn_le hs hn) (by decide)) dX3_readPart_41 [0, 1] [] rfl rfl rfl rfl rfl rfl rfl rfl ⟨0, rfl⟩ rfl rfl (fun v w1 hq => ?_)
        obtain ⟨rfl, rfl⟩ := hq
        refine zj_blk (bs' := [[(a, .inr (3, [.ref b, .int (nI n), .int (nI (rdS t n 59 (rdLn t n s).2).1), .int (bI (rdS t n 59 (rdLn t n s).2).2), .int (bI true), .int (nI (rdLn t n s).1.1), .int (nI (rdLn t n s).1.2.1), .int (nI (rdLn t n s).1.2.2.1), .int (nI (rdLn t n s).1.2.2.2)]))], [(b, .inl (G.2 1, 60, .inl (fun k => nI (t k))))]]) rfl ?_
        refine zj_aload_n (pc := 44) C dX3_readPart_44 rfl ?_
        refine zj_aload_n (pc := 45) C dX3_readPart_45 rfl ?_
        refine gf_X3_3 (pc := 46) C dX3_readPart_46 0 rfl ?_
        refine zj_ifb_ne (pc := 49) 59 C dX3_readPart_49 (by decide) (fun c_49 => ?_) (fun c_49 => ?_)
        · refine zj_iconst (pc := 59) (v := 1) C dX3_readPart_59 (by decide) ?_
          refine zj_goto (pc := 60) (tgt := 64) C dX3_readPart_60 (by decide) ?_
          refine pf_X3_3 (pc := 64) (x := true) C dX3_readPart_64 0 rfl ?_
          refine zj_vretF C hr hlocks dX3_readPart_67 ?_
          have hA9 : isA t n s = false := by
            unfold isA
            by_cases hlt : s.1 < n
            · rw [sgI, if_pos hlt, show (97 : Int32) = nI 97 from rfl, nI_eq (by have := hc _ hlt; omega) (by decide)] at c_10
              simp [c_10]
            · simp [hlt]
          have hS9 : sepS t n (rdLn t n s).2 = ((rdS t n 59 (rdLn t n s).2).1, (rdS t n 59 (rdLn t n s).2).2 || !(decide ((rdS t n 59 (rdLn t n s).2).1 < n))) := if_pos ⟨c_28, of_decide_eq_true c_35⟩
          have hE9 : rdP t n (s, (rl, o, o2, ln, d)) = (sepS t n (rdLn t n s).2, (true, (rdLn t n s).1.1, (rdLn t n s).1.2.1, (rdLn t n s).1.2.2.1, (rdLn t n s).1.2.2.2)) := by
            unfold rdP
            rw [show isA t n (s, (rl, o, o2, ln, d)).1 = false from hA9]
            rfl
          rw [hE9, hS9, c_49, Bool.true_or]
          exact rfl
        · refine zj_aload_n (pc := 52) C dX3_readPart_52 rfl ?_
          refine zj_callPA (pc := 53) C kv_X3_47 (m_X3_hasMore (s := (rdS t n 59 (rdLn t n s).2)) hn (rdS_le (rdLn_le hs hn) hn)) dX3_readPart_53 [0, 1] [] rfl rfl rfl rfl rfl rfl rfl rfl ⟨0, rfl⟩ rfl rfl ?_
          refine zm_ifb_ne_0 (pc := 56) C dX3_readPart_56 dX3_readPart_59 dX3_readPart_60 dX3_readPart_63 ?_
          refine pf_X3_3 (pc := 64) C dX3_readPart_64 0 rfl ?_
          refine zj_vretF C hr hlocks dX3_readPart_67 ?_
          have hA9 : isA t n s = false := by
            unfold isA
            by_cases hlt : s.1 < n
            · rw [sgI, if_pos hlt, show (97 : Int32) = nI 97 from rfl, nI_eq (by have := hc _ hlt; omega) (by decide)] at c_10
              simp [c_10]
            · simp [hlt]
          have hS9 : sepS t n (rdLn t n s).2 = ((rdS t n 59 (rdLn t n s).2).1, (rdS t n 59 (rdLn t n s).2).2 || !(decide ((rdS t n 59 (rdLn t n s).2).1 < n))) := if_pos ⟨c_28, of_decide_eq_true c_35⟩
          have hE9 : rdP t n (s, (rl, o, o2, ln, d)) = (sepS t n (rdLn t n s).2, (true, (rdLn t n s).1.1, (rdLn t n s).1.2.1, (rdLn t n s).1.2.2.1, (rdLn t n s).1.2.2.2)) := by
            unfold rdP
            rw [show isA t n (s, (rl, o, o2, ln, d)).1 = false from hA9]
            rfl
          rw [hE9, hS9, c_49, Bool.false_or]
          exact rfl
  · refine zj_aload_n (pc := 13) C dX3_readPart_13 rfl ?_
    refine zj_callA (pc := 14) C kv_X3_55 (m_X3_readAlleyPart (s := s) hn hc hs) dX3_readPart_14 [0, 1] [] rfl rfl rfl rfl rfl rfl rfl rfl ⟨0, rfl⟩ rfl rfl (fun v w1 hq => ?_)
    obtain ⟨rfl, rfl⟩ := hq
    refine zj_blk (bs' := [[(a, .inr (3, [.ref b, .int (nI n), .int (nI (rdAl t n s).2.1), .int (bI (rdAl t n s).2.2), .int (bI false), .int (nI (rdAl t n s).1.1), .int (nI o2), .int (nI (rdAl t n s).1.2.1), .int (nI (rdAl t n s).1.2.2)]))], [(b, .inl (G.2 1, 60, .inl (fun k => nI (t k))))]]) rfl ?_
    refine zj_goto (pc := 17) (tgt := 24) C dX3_readPart_17 (by decide) ?_
    refine zj_aload_n (pc := 24) C dX3_readPart_24 rfl ?_
    refine gf_X3_3 (pc := 25) C dX3_readPart_25 0 rfl ?_
    refine zj_ifb_ne (pc := 28) 67 C dX3_readPart_28 (by decide) (fun c_28 => ?_) (fun c_28 => ?_)
    · refine zj_vretF C hr hlocks dX3_readPart_67 ?_
      have hA9 : isA t n s = true := by
        have hlt : s.1 < n := by
          by_cases h : s.1 < n
          · exact h
          · rw [sgI, if_neg h] at c_10
            exact absurd c_10 (by decide)
        rw [sgI, if_pos hlt, show (97 : Int32) = nI 97 from rfl, nI_eq (by have := hc _ hlt; omega) (by decide)] at c_10
        unfold isA
        simp [hlt, c_10]
      have hS9 : sepS t n (rdAl t n s).2 = (rdAl t n s).2 := if_neg (by rw [c_28]; simp)
      have hE9 : rdP t n (s, (rl, o, o2, ln, d)) = (sepS t n (rdAl t n s).2, (false, (rdAl t n s).1.1, o2, (rdAl t n s).1.2.1, (rdAl t n s).1.2.2)) := by
        unfold rdP
        rw [show isA t n (s, (rl, o, o2, ln, d)).1 = true from hA9]
        rfl
      rw [hE9, hS9]
      exact rfl
    · refine zj_aload_n (pc := 31) C dX3_readPart_31 rfl ?_
      refine zj_callPA (pc := 32) C kv_X3_47 (m_X3_hasMore (s := (rdAl t n s).2) hn (rdAl_le hs hn)) dX3_readPart_32 [0, 1] [] rfl rfl rfl rfl rfl rfl rfl rfl ⟨0, rfl⟩ rfl rfl ?_
      refine zj_ifb_eq (pc := 35) 67 C dX3_readPart_35 (by decide) (fun c_35 => ?_) (fun c_35 => ?_)
      · refine zj_vretF C hr hlocks dX3_readPart_67 ?_
        have hA9 : isA t n s = true := by
          have hlt : s.1 < n := by
            by_cases h : s.1 < n
            · exact h
            · rw [sgI, if_neg h] at c_10
              exact absurd c_10 (by decide)
          rw [sgI, if_pos hlt, show (97 : Int32) = nI 97 from rfl, nI_eq (by have := hc _ hlt; omega) (by decide)] at c_10
          unfold isA
          simp [hlt, c_10]
        have hS9 : sepS t n (rdAl t n s).2 = (rdAl t n s).2 := if_neg (fun h => by have := of_decide_eq_false c_35; exact this h.2)
        have hE9 : rdP t n (s, (rl, o, o2, ln, d)) = (sepS t n (rdAl t n s).2, (false, (rdAl t n s).1.1, o2, (rdAl t n s).1.2.1, (rdAl t n s).1.2.2)) := by
          unfold rdP
          rw [show isA t n (s, (rl, o, o2, ln, d)).1 = true from hA9]
          rfl
        rw [hE9, hS9]
        exact rfl
      · refine zj_aload_n (pc := 38) C dX3_readPart_38 rfl ?_
        refine zj_bipush (pc := 39) (v := 59) C dX3_readPart_39 (by decide) ?_
        refine zj_callA (pc := 41) C kv_X3_61 (m_X3_readSign (cc := 59) (s := (rdAl t n s).2) hn hc (rdAl_le hs hn) (by decide)) dX3_readPart_41 [0, 1] [] rfl rfl rfl rfl rfl rfl rfl rfl ⟨0, rfl⟩ rfl rfl (fun v w1 hq => ?_)
        obtain ⟨rfl, rfl⟩ := hq
        refine zj_blk (bs' := [[(a, .inr (3, [.ref b, .int (nI n), .int (nI (rdS t n 59 (rdAl t n s).2).1), .int (bI (rdS t n 59 (rdAl t n s).2).2), .int (bI false), .int (nI (rdAl t n s).1.1), .int (nI o2), .int (nI (rdAl t n s).1.2.1), .int (nI (rdAl t n s).1.2.2)]))], [(b, .inl (G.2 1, 60, .inl (fun k => nI (t k))))]]) rfl ?_
        refine zj_aload_n (pc := 44) C dX3_readPart_44 rfl ?_
        refine zj_aload_n (pc := 45) C dX3_readPart_45 rfl ?_
        refine gf_X3_3 (pc := 46) C dX3_readPart_46 0 rfl ?_
        refine zj_ifb_ne (pc := 49) 59 C dX3_readPart_49 (by decide) (fun c_49 => ?_) (fun c_49 => ?_)
        · refine zj_iconst (pc := 59) (v := 1) C dX3_readPart_59 (by decide) ?_
          refine zj_goto (pc := 60) (tgt := 64) C dX3_readPart_60 (by decide) ?_
          refine pf_X3_3 (pc := 64) (x := true) C dX3_readPart_64 0 rfl ?_
          refine zj_vretF C hr hlocks dX3_readPart_67 ?_
          have hA9 : isA t n s = true := by
            have hlt : s.1 < n := by
              by_cases h : s.1 < n
              · exact h
              · rw [sgI, if_neg h] at c_10
                exact absurd c_10 (by decide)
            rw [sgI, if_pos hlt, show (97 : Int32) = nI 97 from rfl, nI_eq (by have := hc _ hlt; omega) (by decide)] at c_10
            unfold isA
            simp [hlt, c_10]
          have hS9 : sepS t n (rdAl t n s).2 = ((rdS t n 59 (rdAl t n s).2).1, (rdS t n 59 (rdAl t n s).2).2 || !(decide ((rdS t n 59 (rdAl t n s).2).1 < n))) := if_pos ⟨c_28, of_decide_eq_true c_35⟩
          have hE9 : rdP t n (s, (rl, o, o2, ln, d)) = (sepS t n (rdAl t n s).2, (false, (rdAl t n s).1.1, o2, (rdAl t n s).1.2.1, (rdAl t n s).1.2.2)) := by
            unfold rdP
            rw [show isA t n (s, (rl, o, o2, ln, d)).1 = true from hA9]
            rfl
          rw [hE9, hS9, c_49, Bool.true_or]
          exact rfl
        · refine zj_aload_n (pc := 52) C dX3_readPart_52 rfl ?_
          refine zj_callPA (pc := 53) C kv_X3_47 (m_X3_hasMore (s := (rdS t n 59 (rdAl t n s).2)) hn (rdS_le (rdAl_le hs hn) hn)) dX3_readPart_53 [0, 1] [] rfl rfl rfl rfl rfl rfl rfl rfl ⟨0, rfl⟩ rfl rfl ?_
          refine zm_ifb_ne_0 (pc := 56) C dX3_readPart_56 dX3_readPart_59 dX3_readPart_60 dX3_readPart_63 ?_
          refine pf_X3_3 (pc := 64) C dX3_readPart_64 0 rfl ?_
          refine zj_vretF C hr hlocks dX3_readPart_67 ?_
          have hA9 : isA t n s = true := by
            have hlt : s.1 < n := by
              by_cases h : s.1 < n
              · exact h
              · rw [sgI, if_neg h] at c_10
                exact absurd c_10 (by decide)
            rw [sgI, if_pos hlt, show (97 : Int32) = nI 97 from rfl, nI_eq (by have := hc _ hlt; omega) (by decide)] at c_10
            unfold isA
            simp [hlt, c_10]
          have hS9 : sepS t n (rdAl t n s).2 = ((rdS t n 59 (rdAl t n s).2).1, (rdS t n 59 (rdAl t n s).2).2 || !(decide ((rdS t n 59 (rdAl t n s).2).1 < n))) := if_pos ⟨c_28, of_decide_eq_true c_35⟩
          have hE9 : rdP t n (s, (rl, o, o2, ln, d)) = (sepS t n (rdAl t n s).2, (false, (rdAl t n s).1.1, o2, (rdAl t n s).1.2.1, (rdAl t n s).1.2.2)) := by
            unfold rdP
            rw [show isA t n (s, (rl, o, o2, ln, d)).1 = true from hA9]
            rfl
          rw [hE9, hS9, c_49, Bool.false_or]
          exact rfl
