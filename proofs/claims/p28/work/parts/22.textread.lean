set_option maxRecDepth 100000 in
set_option maxHeartbeats 4000000 in
theorem m_X3_size {l : Launch} {G : GG} {a b n : Nat} {t : Nat → Nat} {s : Nat × Bool} {rl : Bool} {o o2 ln d : Nat} : zX l G yX3_size cX3_size 1 (some .int) 0 0 0 0 [.ref a] (text G a b t n (s, (rl, o, o2, ln, d))) (zF (some (.int (nI n))) (text G a b t n (s, (rl, o, o2, ln, d)))) := by
  refine zj_startF RX3 (by decide +kernel) rfl rfl rfl (bs := [[(a, .inr (3, [.ref b, .int (nI n), .int (nI s.1), .int (bI s.2), .int (bI rl), .int (nI o), .int (nI o2), .int (nI ln), .int (nI d)]))], [(b, .inl (G.2 1, 60, .inl (fun k => nI (t k))))]]) rfl (lo := [some (.ref a)]) rfl ?_
  intro p0 e0 s0 m0 args0 below0 meth0 c0 A0 C hr hlocks
  refine zj_aload_n (pc := 0) C dX3_size_0 rfl ?_
  refine gf_X3_1 (pc := 1) C dX3_size_1 0 rfl ?_
  refine zj_iretF C hr hlocks dX3_size_4 ?_ rfl
  exact rfl
