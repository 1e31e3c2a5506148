/-- the start of a method that takes room -/
theorem zj_startN {l : Launch} {G : GG} {cc : ByteArray} {nL : Nat} {y : MethodName} {rt : Option FieldType} {fr lc mc ms : Nat} {av : List Value} {wc : va_W} {Qu : Option Value → va_W → Prop} (own : String) (hy : plainName y.cls = true) (hown : y.cls = own) (hcat : av.all (fun v => v.category == 1) = true) (hlen : Nat.ble av.length nL = true) {bs : List va_W} (hbs : wc = bs.flatten) {lo : List (Option Value)} (hlo : av.map some ++ List.replicate (nL - av.length) none = lo)
    (body : ∀ (p : Program) (e : Env) (s : State) (m : MethodId) (args : Array Value) (below : List Frame) (meth : Method) (c : Code) (A : Nat → Prop), zC p s m args c cc own nL G A → meth.sig.returnType = rt → meth.locks = false → meth.name = y.name →
      Zj p l e ({ frames := fr, cells := mc, slots := ms, locals := lc } : Room) s m args below meth c G A 0 0 (MQ below (fun _ st oc t => (∃ (v : Option Value) (w1 : va_W), oc = .returned v ∧ Qu v w1 ∧ va_P G.1 vwCl w1 t.heap ∧ va_D A w1) ∧ va_F A st t) args s mc ms A) bs lo 0 []) : zX l G y cc nL rt fr lc mc ms av wc Qu := by
  refine zj_start hy hown (fun v hv => ?_) (Nat.le_of_ble_eq_true hlen) (fun p e s m args below meth c A hA C hr hlocks hin => ?_)
  · have := List.all_eq_true.mp hcat v hv
    simpa using this
  · rw [hlo]
    refine zj_blk (bs' := bs) (by rw [hbs, List.flatten_singleton]) ?_
    exact body p e s m args below meth c A C hr hlocks hin
section ZN2
variable {p : Program} {l : Launch} {e : Env} {R : Room} {s : State} {m : MethodId} {args : Array Value} {below : List Frame} {meth : Method} {c : Code} {G : GG} {A : Nat → Prop} {cells slots : Nat} {Q : State → Prop} {bs : List va_W} {lo : List (Option Value)} {pc : Nat} {st : List Value} {cc : ByteArray} {own : String} {nL : Nat}
theorem zj_callIn {y : MethodName} {cy : ByteArray} {maxL fr lc mc ms index n : Nat} {b : Nat} {As : List Value} {wc : va_W} {Qu : Option Value → va_W → Prop} (C : zC p s m args c cc own nL G A) (hV : zI own index y cy maxL n) (hM : zX l G y cy maxL none fr lc mc ms (.ref b :: As) wc Qu) (hd : decode cc pc = .ok (.invokespecial index, 3)) (hR : (Nat.ble (fr + 1) R.frames && Nat.ble (8 + (maxL + 11) + lc) R.locals) = true) (hn : As.length = n) (hcap : Nat.ble (st.map fun v => v.category).sum 8 = true) (hcs : (Nat.ble (cells + mc) R.cells && Nat.ble (slots + ms) R.slots) = true) (hnl : lo.length = nL) (is jr : List Nat) (hp : (is ++ jr).isPerm (List.range bs.length) = true) (hC : (zpk bs is).flatten = wc)
    (k : ∀ v w1, Qu v w1 → Zj p l e R s m args below meth c G A (cells + mc) (slots + ms) Q (w1 :: zpk bs jr) lo (pc + 3) (v.toList ++ st)) {st0 : List Value} (hst : st0 = As.reverse ++ .ref b :: st) : Zj p l e R s m args below meth c G A cells slots Q bs lo pc st0 := zj_callI C hV hM hd (zn_and hR) hn (Nat.le_of_ble_eq_true hcap) (zn_and hcs) hnl is jr hp hC k hst
theorem zj_cs (cells' slots' : Nat) (h1 : cells = cells') (h2 : slots = slots') (k : Zj p l e R s m args below meth c G A cells' slots' Q bs lo pc st) : Zj p l e R s m args below meth c G A cells slots Q bs lo pc st := by subst h1; subst h2; exact k
theorem zj_ord (is : List Nat) (hp : is.isPerm (List.range bs.length) = true) (k : Zj p l e R s m args below meth c G A cells slots Q (zpk bs is) lo pc st) : Zj p l e R s m args below meth c G A cells slots Q bs lo pc st := zj_eqp (by have h := zp_perm (bs := bs) (is := is) (jr := []) (by rw [List.append_nil]; exact hp); rwa [show (zpk bs []).flatten = [] from rfl, List.append_nil] at h) k
end ZN2
theorem mx0 {a : Nat} (h : a < 2 ^ 31) : (if (0 : Int32) < nI a then nI a else 0) = nI a := by
  by_cases h0 : (0 : Int32) < nI a
  · rw [if_pos h0]
  · rw [if_neg h0]
    have : ¬ nI 0 < nI a := h0
    rw [nI_ltI (by decide) h] at this
    rw [show a = 0 by omega]; rfl
/-- the answer is none, and the world is one of these, by its addresses -/
abbrev zN {σ : Type} (f : σ → va_W) : Option Value → va_W → Prop := fun v' w' => v' = none ∧ ∃ x : σ, w' = f x

set_option maxRecDepth 100000 in
set_option maxHeartbeats 4000000 in
theorem m_X2_init {l : Launch} {G : GG} {a rm cl : Nat} (hN : rm * cl < 1000) : zX l G yX2_init cX2_init 3 none 1 24 1 (0 + rm * cl) [.ref a, .int (nI rm), .int (nI cl)] ([(a, .inr (2, [.null, .int 0, .int 0]))]) (zN (fun b => tbl G a b (rm * cl) (nI cl) (fun _ => 0) 0)) := by
  refine zj_startN RX2 (by decide +kernel) rfl rfl rfl (bs := [[(a, .inr (2, [.null, .int 0, .int 0]))]]) rfl (lo := [some (.ref a), some (.int (nI rm)), some (.int (nI cl))]) rfl ?_
  intro p0 e0 s0 m0 args0 below0 meth0 c0 A0 C hr hlocks hin
  refine zj_aload_n (pc := 0) C dX2_init_0 rfl ?_
  refine zj_objInit (pc := 1) C aq_54 aq_41 aq_42 dX2_init_1 rfl rfl rfl ?_
  refine zj_aload_n (pc := 4) C dX2_init_4 rfl ?_
  refine zj_iconst (pc := 5) (v := 0) C dX2_init_5 (by decide) ?_
  refine zj_iload_n (pc := 6) C dX2_init_6 rfl ?_
  refine zj_iload_n (pc := 7) C dX2_init_7 rfl ?_
  refine zj_imul (pc := 8) C dX2_init_8 ?_
  refine zj_mmax (pc := 9) C aq_55 aq_56 aq_29 aq_57 dX2_init_9 (zn_and rfl) (Nat.le_of_ble_eq_true rfl) (zn_and rfl) rfl ?_
  refine zj_top (x' := nI (rm * cl)) (by rw [show nI rm * nI cl = nI (rm * cl) from pk_mul _ _]; exact mx0 (by omega)) ?_
  refine zj_newi (pc := 12) (N' := (rm * cl)) C aq_68 rfl hN (by simp) dX2_init_12 (fun q1 => ?_)
  refine pf_X2_0 (pc := 14) C hin dX2_init_14 0 rfl ?_
  refine zj_aload_n (pc := 17) C dX2_init_17 rfl ?_
  refine zj_iload_n (pc := 18) C dX2_init_18 rfl ?_
  refine pf_X2_1 (pc := 19) C hin dX2_init_19 0 rfl ?_
  refine zj_aload_n (pc := 22) C dX2_init_22 rfl ?_
  refine zj_iconst (pc := 23) (v := 0) C dX2_init_23 (by decide) ?_
  refine pf_X2_2 (pc := 24) C dX2_init_24 0 rfl ?_
  refine zj_vret C hr hlocks dX2_init_27 ?_
  exact ⟨rfl, q1, rfl⟩
set_option maxRecDepth 100000 in
set_option maxHeartbeats 4000000 in
theorem m_X5_init {l : Launch} {G : GG} {a : Nat} : zX l G yX5_init cX5_init 1 none 1 24 1 980 [.ref a] ([(a, .inr (5, [.null]))]) (zN (fun b => ways G a b (fun _ _ _ => 0))) := by
  refine zj_startN RX5 (by decide +kernel) rfl rfl rfl (bs := [[(a, .inr (5, [.null]))]]) rfl (lo := [some (.ref a)]) rfl ?_
  intro p0 e0 s0 m0 args0 below0 meth0 c0 A0 C hr hlocks hin
  refine zj_aload_n (pc := 0) C dX5_init_0 rfl ?_
  refine zj_objInit (pc := 1) C aq_145 aq_41 aq_42 dX5_init_1 rfl rfl rfl ?_
  refine zj_aload_n (pc := 4) C dX5_init_4 rfl ?_
  refine zj_sipush (pc := 5) (v := 980) C dX5_init_5 (by decide) ?_
  refine zj_newi (pc := 8) (N' := 980) C aq_68 rfl (by decide) rfl dX5_init_8 (fun q1 => ?_)
  refine zj_cs 1 980 (by decide) (by decide) ?_
  refine pf_X5_0 (pc := 10) C hin dX5_init_10 0 rfl ?_
  refine zj_vret C hr hlocks dX5_init_13 ?_
  exact ⟨rfl, q1, rfl⟩
set_option maxRecDepth 100000 in
set_option maxHeartbeats 4000000 in
theorem m_X3_init {l : Launch} {G : GG} {a : Nat} : zX l G yX3_init cX3_init 1 none 1 24 1 60 [.ref a] ([(a, .inr (3, [.null, .int 0, .int 0, .int 0, .int 0, .int 0, .int 0, .int 0, .int 0]))]) (zN (fun b => text G a b (fun _ => 0) 0 ((0, false), false, 0, 0, 0, 0))) := by
  refine zj_startN RX3 (by decide +kernel) rfl rfl rfl (bs := [[(a, .inr (3, [.null, .int 0, .int 0, .int 0, .int 0, .int 0, .int 0, .int 0, .int 0]))]]) rfl (lo := [some (.ref a)]) rfl ?_
  intro p0 e0 s0 m0 args0 below0 meth0 c0 A0 C hr hlocks hin
  refine zj_aload_n (pc := 0) C dX3_init_0 rfl ?_
  refine zj_objInit (pc := 1) C aq_104 aq_41 aq_42 dX3_init_1 rfl rfl rfl ?_
  refine zj_aload_n (pc := 4) C dX3_init_4 rfl ?_
  refine zj_bipush (pc := 5) (v := 60) C dX3_init_5 (by decide) ?_
  refine zj_newc (pc := 7) (N' := 60) C aq_133 rfl (by decide) rfl dX3_init_7 (fun q1 => ?_)
  refine zj_cs 1 60 (by decide) (by decide) ?_
  refine pf_X3_0 (pc := 9) C hin dX3_init_9 0 rfl ?_
  refine zj_aload_n (pc := 12) C dX3_init_12 rfl ?_
  refine zj_iconst (pc := 13) (v := 0) C dX3_init_13 (by decide) ?_
  refine pf_X3_1 (pc := 14) C dX3_init_14 0 rfl ?_
  refine zj_aload_n (pc := 17) C dX3_init_17 rfl ?_
  refine zj_iconst (pc := 18) (v := 0) C dX3_init_18 (by decide) ?_
  refine pf_X3_2 (pc := 19) C dX3_init_19 0 rfl ?_
  refine zj_aload_n (pc := 22) C dX3_init_22 rfl ?_
  refine zj_iconst (pc := 23) (v := 0) C dX3_init_23 (by decide) ?_
  refine pf_X3_3 (pc := 24) (x := false) C dX3_init_24 0 rfl ?_
  refine zj_aload_n (pc := 27) C dX3_init_27 rfl ?_
  refine zj_iconst (pc := 28) (v := 0) C dX3_init_28 (by decide) ?_
  refine pf_X3_4 (pc := 29) (x := false) C dX3_init_29 0 rfl ?_
  refine zj_aload_n (pc := 32) C dX3_init_32 rfl ?_
  refine zj_iconst (pc := 33) (v := 0) C dX3_init_33 (by decide) ?_
  refine pf_X3_5 (pc := 34) C dX3_init_34 0 rfl ?_
  refine zj_aload_n (pc := 37) C dX3_init_37 rfl ?_
  refine zj_iconst (pc := 38) (v := 0) C dX3_init_38 (by decide) ?_
  refine pf_X3_6 (pc := 39) C dX3_init_39 0 rfl ?_
  refine zj_aload_n (pc := 42) C dX3_init_42 rfl ?_
  refine zj_iconst (pc := 43) (v := 0) C dX3_init_43 (by decide) ?_
  refine pf_X3_7 (pc := 44) C dX3_init_44 0 rfl ?_
  refine zj_aload_n (pc := 47) C dX3_init_47 rfl ?_
  refine zj_iconst (pc := 48) (v := 0) C dX3_init_48 (by decide) ?_
  refine pf_X3_8 (pc := 49) C dX3_init_49 0 rfl ?_
  refine zj_vret C hr hlocks dX3_init_52 ?_
  exact ⟨rfl, q1, rfl⟩
set_option maxRecDepth 100000 in
set_option maxHeartbeats 4000000 in
theorem m_X4_init {l : Launch} {G : GG} {a : Nat} : zX l G yX4_init cX4_init 1 none 2 46 10 1347 [.ref a] ([(a, .inr (4, [.null, .null, .null, .null, .null, .int 0]))]) (fun v w => v = none ∧ ∃ o : Nat → Nat, o 0 = a ∧ w = tot G o (fun _ _ _ => 0) (fun _ => 0) (fun _ => 0) (fun _ => 0) (fun _ => 0) 0) := by
  refine zj_startN RX4 (by decide +kernel) rfl rfl rfl (bs := [[(a, .inr (4, [.null, .null, .null, .null, .null, .int 0]))]]) rfl (lo := [some (.ref a)]) rfl ?_
  intro p0 e0 s0 m0 args0 below0 meth0 c0 A0 C hr hlocks hin
  refine zj_aload_n (pc := 0) C dX4_init_0 rfl ?_
  refine zj_objInit (pc := 1) C aq_139 aq_41 aq_42 dX4_init_1 rfl rfl rfl ?_
  refine zj_aload_n (pc := 4) C dX4_init_4 rfl ?_
  refine zj_new (pc := 5) (ci := 5) (fs := [.null]) C iw_X5 tyX5 tyX5_ok aq_140 aq_141 qi_X5 rfl (fun j hj => by rcases (show j = 0 by omega) with rfl <;> rfl) rfl dX4_init_5 (fun q1 => ?_)
  refine zj_cs 1 1 (by decide) (by decide) ?_
  refine zj_blk (bs' := [[(a, .inr (4, [.null, .null, .null, .null, .null, .int 0]))], [(q1, .inr (5, [.null]))]]) rfl ?_
  refine zj_dup (pc := 8) C dX4_init_8 rfl ?_
  refine zj_callIn (pc := 9) C kv_X4_11 (m_X5_init) dX4_init_9 rfl rfl rfl rfl rfl [1] [0] rfl rfl (fun v w1 hq => ?_) rfl
  obtain ⟨rfl, q1b, rfl⟩ := hq
  refine zj_cs 2 981 (by decide) (by decide) ?_
  refine zj_blk (bs' := [ways G q1 q1b (fun _ _ _ => 0), [(a, .inr (4, [.null, .null, .null, .null, .null, .int 0]))]]) rfl ?_
  refine pf_X4_0 (pc := 12) C hin dX4_init_12 1 rfl ?_
  refine zj_blk (bs' := [ways G q1 q1b (fun _ _ _ => 0), [(a, .inr (4, [.ref q1, .null, .null, .null, .null, .int 0]))]]) rfl ?_
  refine zj_aload_n (pc := 15) C dX4_init_15 rfl ?_
  refine zj_new (pc := 16) (ci := 2) (fs := [.null, .int 0, .int 0]) C iw_X2 tyX2 tyX2_ok aq_150 aq_50 qi_X2 rfl (fun j hj => by rcases (show j = 0 ∨ j = 1 ∨ j = 2 by omega) with rfl | rfl | rfl <;> rfl) rfl dX4_init_16 (fun q2 => ?_)
  refine zj_cs 3 984 (by decide) (by decide) ?_
  refine zj_blk (bs' := [ways G q1 q1b (fun _ _ _ => 0), [(a, .inr (4, [.ref q1, .null, .null, .null, .null, .int 0]))], [(q2, .inr (2, [.null, .int 0, .int 0]))]]) rfl ?_
  refine zj_dup (pc := 19) C dX4_init_19 rfl ?_
  refine zj_bipush (pc := 20) (v := 14) C dX4_init_20 (by decide) ?_
  refine zj_iconst (pc := 22) (v := 1) C dX4_init_22 (by decide) ?_
  refine zj_callIn (pc := 23) C kv_X4_20 (m_X2_init (rm := 14) (cl := 1) (by decide)) dX4_init_23 rfl rfl rfl rfl rfl [2] [0, 1] rfl rfl (fun v w1 hq => ?_) rfl
  obtain ⟨rfl, q2b, rfl⟩ := hq
  refine zj_cs 4 998 (by decide) (by decide) ?_
  refine zj_blk (bs' := [tbl G q2 q2b 14 (nI 1) (fun _ => 0) 0, ways G q1 q1b (fun _ _ _ => 0), [(a, .inr (4, [.ref q1, .null, .null, .null, .null, .int 0]))]]) rfl ?_
  refine pf_X4_1 (pc := 26) C hin dX4_init_26 2 rfl ?_
  refine zj_blk (bs' := [tbl G q2 q2b 14 (nI 1) (fun _ => 0) 0, ways G q1 q1b (fun _ _ _ => 0), [(a, .inr (4, [.ref q1, .ref q2, .null, .null, .null, .int 0]))]]) rfl ?_
  refine zj_aload_n (pc := 29) C dX4_init_29 rfl ?_
  refine zj_new (pc := 30) (ci := 2) (fs := [.null, .int 0, .int 0]) C iw_X2 tyX2 tyX2_ok aq_150 aq_50 qi_X2 rfl (fun j hj => by rcases (show j = 0 ∨ j = 1 ∨ j = 2 by omega) with rfl | rfl | rfl <;> rfl) rfl dX4_init_30 (fun q3 => ?_)
  refine zj_cs 5 1001 (by decide) (by decide) ?_
  refine zj_blk (bs' := [tbl G q2 q2b 14 (nI 1) (fun _ => 0) 0, ways G q1 q1b (fun _ _ _ => 0), [(a, .inr (4, [.ref q1, .ref q2, .null, .null, .null, .int 0]))], [(q3, .inr (2, [.null, .int 0, .int 0]))]]) rfl ?_
  refine zj_dup (pc := 33) C dX4_init_33 rfl ?_
  refine zj_iconst (pc := 34) (v := 4) C dX4_init_34 (by decide) ?_
  refine zj_iconst (pc := 35) (v := 1) C dX4_init_35 (by decide) ?_
  refine zj_callIn (pc := 36) C kv_X4_20 (m_X2_init (rm := 4) (cl := 1) (by decide)) dX4_init_36 rfl rfl rfl rfl rfl [3] [0, 1, 2] rfl rfl (fun v w1 hq => ?_) rfl
  obtain ⟨rfl, q3b, rfl⟩ := hq
  refine zj_cs 6 1005 (by decide) (by decide) ?_
  refine zj_blk (bs' := [tbl G q3 q3b 4 (nI 1) (fun _ => 0) 0, tbl G q2 q2b 14 (nI 1) (fun _ => 0) 0, ways G q1 q1b (fun _ _ _ => 0), [(a, .inr (4, [.ref q1, .ref q2, .null, .null, .null, .int 0]))]]) rfl ?_
  refine pf_X4_2 (pc := 39) C hin dX4_init_39 3 rfl ?_
  refine zj_blk (bs' := [tbl G q3 q3b 4 (nI 1) (fun _ => 0) 0, tbl G q2 q2b 14 (nI 1) (fun _ => 0) 0, ways G q1 q1b (fun _ _ _ => 0), [(a, .inr (4, [.ref q1, .ref q2, .ref q3, .null, .null, .int 0]))]]) rfl ?_
  refine zj_aload_n (pc := 42) C dX4_init_42 rfl ?_
  refine zj_new (pc := 43) (ci := 2) (fs := [.null, .int 0, .int 0]) C iw_X2 tyX2 tyX2_ok aq_150 aq_50 qi_X2 rfl (fun j hj => by rcases (show j = 0 ∨ j = 1 ∨ j = 2 by omega) with rfl | rfl | rfl <;> rfl) rfl dX4_init_43 (fun q4 => ?_)
  refine zj_cs 7 1008 (by decide) (by decide) ?_
  refine zj_blk (bs' := [tbl G q3 q3b 4 (nI 1) (fun _ => 0) 0, tbl G q2 q2b 14 (nI 1) (fun _ => 0) 0, ways G q1 q1b (fun _ _ _ => 0), [(a, .inr (4, [.ref q1, .ref q2, .ref q3, .null, .null, .int 0]))], [(q4, .inr (2, [.null, .int 0, .int 0]))]]) rfl ?_
  refine zj_dup (pc := 46) C dX4_init_46 rfl ?_
  refine zj_bipush (pc := 47) (v := 14) C dX4_init_47 (by decide) ?_
  refine zj_bipush (pc := 49) (v := 12) C dX4_init_49 (by decide) ?_
  refine zj_callIn (pc := 51) C kv_X4_20 (m_X2_init (rm := 14) (cl := 12) (by decide)) dX4_init_51 rfl rfl rfl rfl rfl [4] [0, 1, 2, 3] rfl rfl (fun v w1 hq => ?_) rfl
  obtain ⟨rfl, q4b, rfl⟩ := hq
  refine zj_cs 8 1176 (by decide) (by decide) ?_
  refine zj_blk (bs' := [tbl G q4 q4b 168 (nI 12) (fun _ => 0) 0, tbl G q3 q3b 4 (nI 1) (fun _ => 0) 0, tbl G q2 q2b 14 (nI 1) (fun _ => 0) 0, ways G q1 q1b (fun _ _ _ => 0), [(a, .inr (4, [.ref q1, .ref q2, .ref q3, .null, .null, .int 0]))]]) rfl ?_
  refine pf_X4_3 (pc := 54) C hin dX4_init_54 4 rfl ?_
  refine zj_blk (bs' := [tbl G q4 q4b 168 (nI 12) (fun _ => 0) 0, tbl G q3 q3b 4 (nI 1) (fun _ => 0) 0, tbl G q2 q2b 14 (nI 1) (fun _ => 0) 0, ways G q1 q1b (fun _ _ _ => 0), [(a, .inr (4, [.ref q1, .ref q2, .ref q3, .ref q4, .null, .int 0]))]]) rfl ?_
  refine zj_aload_n (pc := 57) C dX4_init_57 rfl ?_
  refine zj_new (pc := 58) (ci := 2) (fs := [.null, .int 0, .int 0]) C iw_X2 tyX2 tyX2_ok aq_150 aq_50 qi_X2 rfl (fun j hj => by rcases (show j = 0 ∨ j = 1 ∨ j = 2 by omega) with rfl | rfl | rfl <;> rfl) rfl dX4_init_58 (fun q5 => ?_)
  refine zj_cs 9 1179 (by decide) (by decide) ?_
  refine zj_blk (bs' := [tbl G q4 q4b 168 (nI 12) (fun _ => 0) 0, tbl G q3 q3b 4 (nI 1) (fun _ => 0) 0, tbl G q2 q2b 14 (nI 1) (fun _ => 0) 0, ways G q1 q1b (fun _ _ _ => 0), [(a, .inr (4, [.ref q1, .ref q2, .ref q3, .ref q4, .null, .int 0]))], [(q5, .inr (2, [.null, .int 0, .int 0]))]]) rfl ?_
  refine zj_dup (pc := 61) C dX4_init_61 rfl ?_
  refine zj_bipush (pc := 62) (v := 14) C dX4_init_62 (by decide) ?_
  refine zj_bipush (pc := 64) (v := 12) C dX4_init_64 (by decide) ?_
  refine zj_callIn (pc := 66) C kv_X4_20 (m_X2_init (rm := 14) (cl := 12) (by decide)) dX4_init_66 rfl rfl rfl rfl rfl [5] [0, 1, 2, 3, 4] rfl rfl (fun v w1 hq => ?_) rfl
  obtain ⟨rfl, q5b, rfl⟩ := hq
  refine zj_cs 10 1347 (by decide) (by decide) ?_
  refine zj_blk (bs' := [tbl G q5 q5b 168 (nI 12) (fun _ => 0) 0, tbl G q4 q4b 168 (nI 12) (fun _ => 0) 0, tbl G q3 q3b 4 (nI 1) (fun _ => 0) 0, tbl G q2 q2b 14 (nI 1) (fun _ => 0) 0, ways G q1 q1b (fun _ _ _ => 0), [(a, .inr (4, [.ref q1, .ref q2, .ref q3, .ref q4, .null, .int 0]))]]) rfl ?_
  refine pf_X4_4 (pc := 69) C hin dX4_init_69 5 rfl ?_
  refine zj_blk (bs' := [tbl G q5 q5b 168 (nI 12) (fun _ => 0) 0, tbl G q4 q4b 168 (nI 12) (fun _ => 0) 0, tbl G q3 q3b 4 (nI 1) (fun _ => 0) 0, tbl G q2 q2b 14 (nI 1) (fun _ => 0) 0, ways G q1 q1b (fun _ _ _ => 0), [(a, .inr (4, [.ref q1, .ref q2, .ref q3, .ref q4, .ref q5, .int 0]))]]) rfl ?_
  refine zj_aload_n (pc := 72) C dX4_init_72 rfl ?_
  refine zj_iconst (pc := 73) (v := 0) C dX4_init_73 (by decide) ?_
  refine pf_X4_5 (pc := 74) C dX4_init_74 5 rfl ?_
  refine zj_blk (bs' := [tbl G q5 q5b 168 (nI 12) (fun _ => 0) 0, tbl G q4 q4b 168 (nI 12) (fun _ => 0) 0, tbl G q3 q3b 4 (nI 1) (fun _ => 0) 0, tbl G q2 q2b 14 (nI 1) (fun _ => 0) 0, ways G q1 q1b (fun _ _ _ => 0), [(a, .inr (4, [.ref q1, .ref q2, .ref q3, .ref q4, .ref q5, .int 0]))]]) rfl ?_
  refine zj_ord [5, 4, 3, 2, 1, 0] rfl ?_
  refine zj_vret C hr hlocks dX4_init_77 ?_
  refine ⟨rfl, (fun k => match k with | 0 => a | 1 => q1 | 2 => q1b | 3 => q2 | 4 => q2b | 5 => q3 | 6 => q3b | 7 => q4 | 8 => q4b | 9 => q5 | _ => q5b), rfl, ?_⟩
  show List.flatten _ = List.flatten _
  rfl
def rk0 (i : Nat) : Nat → Nat := fun k => if k < i then 1 else 0
theorem rk0_s {i : Nat} : updN (rk0 i) i 1 = rk0 (i + 1) := by
  funext k
  unfold updN rk0
  by_cases h : k = i
  · subst h; rw [if_pos rfl, if_pos (by omega)]
  · rw [if_neg h]
    by_cases h2 : k < i
    · rw [if_pos h2, if_pos (by omega)]
    · rw [if_neg h2, if_neg (by omega)]
def P00 : PC := (nF (rk0 14), (fun _ => 0), 0, (fun _ => 0), 0)
def T00 : T7 := ((0, false), false, 0, 0, 0, 0)
def W00 : TC := ((fun _ _ _ => 0), (fun _ => 0), (fun _ => 0), (fun _ => 0), (fun _ => 0), 0)
theorem plan_m {G : GG} {o : Nat → Nat} {q : Nat} {P : PC} (h : o 0 = q) : (q, .inr (1, [.ref (o 1), .ref (o 3), .ref (o 5)])) ∈ plan G o P := by rw [← h]; exact plan_0
set_option maxRecDepth 100000 in
set_option maxHeartbeats 4000000 in
theorem m_X1_init {l : Launch} {G : GG} {a : Nat} : zX l G yX1_init cX1_init 2 none 2 46 6 179 [.ref a] ([(a, .inr (1, [.null, .null, .null]))]) (fun v w => v = none ∧ ∃ o : Nat → Nat, o 0 = a ∧ w = plan G o P00) := by
  refine zj_startN RX1 (by decide +kernel) rfl rfl rfl (bs := [[(a, .inr (1, [.null, .null, .null]))]]) rfl (lo := [some (.ref a), none]) rfl ?_
  intro p0 e0 s0 m0 args0 below0 meth0 c0 A0 C hr hlocks hin
  refine zj_aload_n (pc := 0) C dX1_init_0 rfl ?_
  refine zj_objInit (pc := 1) C aq_48 aq_41 aq_42 dX1_init_1 rfl rfl rfl ?_
  refine zj_aload_n (pc := 4) C dX1_init_4 rfl ?_
  refine zj_new (pc := 5) (ci := 2) (fs := [.null, .int 0, .int 0]) C iw_X2 tyX2 tyX2_ok aq_49 aq_50 qi_X2 rfl (fun j hj => by rcases (show j = 0 ∨ j = 1 ∨ j = 2 by omega) with rfl | rfl | rfl <;> rfl) rfl dX1_init_5 (fun q1 => ?_)
  refine zj_cs 1 3 (by decide) (by decide) ?_
  refine zj_blk (bs' := [[(a, .inr (1, [.null, .null, .null]))], [(q1, .inr (2, [.null, .int 0, .int 0]))]]) rfl ?_
  refine zj_dup (pc := 8) C dX1_init_8 rfl ?_
  refine zj_bipush (pc := 9) (v := 14) C dX1_init_9 (by decide) ?_
  refine zj_iconst (pc := 11) (v := 1) C dX1_init_11 (by decide) ?_
  refine zj_callIn (pc := 12) C kv_X1_11 (m_X2_init (rm := 14) (cl := 1) (by decide)) dX1_init_12 rfl rfl rfl rfl rfl [1] [0] rfl rfl (fun v w1 hq => ?_) rfl
  obtain ⟨rfl, q1b, rfl⟩ := hq
  refine zj_cs 2 17 (by decide) (by decide) ?_
  refine zj_blk (bs' := [tbl G q1 q1b 14 (nI 1) (fun _ => 0) 0, [(a, .inr (1, [.null, .null, .null]))]]) rfl ?_
  refine pf_X1_0 (pc := 15) C hin dX1_init_15 1 rfl ?_
  refine zj_blk (bs' := [tbl G q1 q1b 14 (nI 1) (fun _ => 0) 0, [(a, .inr (1, [.ref q1, .null, .null]))]]) rfl ?_
  refine zj_aload_n (pc := 18) C dX1_init_18 rfl ?_
  refine zj_new (pc := 19) (ci := 2) (fs := [.null, .int 0, .int 0]) C iw_X2 tyX2 tyX2_ok aq_49 aq_50 qi_X2 rfl (fun j hj => by rcases (show j = 0 ∨ j = 1 ∨ j = 2 by omega) with rfl | rfl | rfl <;> rfl) rfl dX1_init_19 (fun q2 => ?_)
  refine zj_cs 3 20 (by decide) (by decide) ?_
  refine zj_blk (bs' := [tbl G q1 q1b 14 (nI 1) (fun _ => 0) 0, [(a, .inr (1, [.ref q1, .null, .null]))], [(q2, .inr (2, [.null, .int 0, .int 0]))]]) rfl ?_
  refine zj_dup (pc := 22) C dX1_init_22 rfl ?_
  refine zj_bipush (pc := 23) (v := 24) C dX1_init_23 (by decide) ?_
  refine zj_iconst (pc := 25) (v := 5) C dX1_init_25 (by decide) ?_
  refine zj_callIn (pc := 26) C kv_X1_11 (m_X2_init (rm := 24) (cl := 5) (by decide)) dX1_init_26 rfl rfl rfl rfl rfl [2] [0, 1] rfl rfl (fun v w1 hq => ?_) rfl
  obtain ⟨rfl, q2b, rfl⟩ := hq
  refine zj_cs 4 140 (by decide) (by decide) ?_
  refine zj_blk (bs' := [tbl G q2 q2b 120 (nI 5) (fun _ => 0) 0, tbl G q1 q1b 14 (nI 1) (fun _ => 0) 0, [(a, .inr (1, [.ref q1, .null, .null]))]]) rfl ?_
  refine pf_X1_1 (pc := 29) C hin dX1_init_29 2 rfl ?_
  refine zj_blk (bs' := [tbl G q2 q2b 120 (nI 5) (fun _ => 0) 0, tbl G q1 q1b 14 (nI 1) (fun _ => 0) 0, [(a, .inr (1, [.ref q1, .ref q2, .null]))]]) rfl ?_
  refine zj_aload_n (pc := 32) C dX1_init_32 rfl ?_
  refine zj_new (pc := 33) (ci := 2) (fs := [.null, .int 0, .int 0]) C iw_X2 tyX2 tyX2_ok aq_49 aq_50 qi_X2 rfl (fun j hj => by rcases (show j = 0 ∨ j = 1 ∨ j = 2 by omega) with rfl | rfl | rfl <;> rfl) rfl dX1_init_33 (fun q3 => ?_)
  refine zj_cs 5 143 (by decide) (by decide) ?_
  refine zj_blk (bs' := [tbl G q2 q2b 120 (nI 5) (fun _ => 0) 0, tbl G q1 q1b 14 (nI 1) (fun _ => 0) 0, [(a, .inr (1, [.ref q1, .ref q2, .null]))], [(q3, .inr (2, [.null, .int 0, .int 0]))]]) rfl ?_
  refine zj_dup (pc := 36) C dX1_init_36 rfl ?_
  refine zj_bipush (pc := 37) (v := 12) C dX1_init_37 (by decide) ?_
  refine zj_iconst (pc := 39) (v := 3) C dX1_init_39 (by decide) ?_
  refine zj_callIn (pc := 40) C kv_X1_11 (m_X2_init (rm := 12) (cl := 3) (by decide)) dX1_init_40 rfl rfl rfl rfl rfl [3] [0, 1, 2] rfl rfl (fun v w1 hq => ?_) rfl
  obtain ⟨rfl, q3b, rfl⟩ := hq
  refine zj_cs 6 179 (by decide) (by decide) ?_
  refine zj_blk (bs' := [tbl G q3 q3b 36 (nI 3) (fun _ => 0) 0, tbl G q2 q2b 120 (nI 5) (fun _ => 0) 0, tbl G q1 q1b 14 (nI 1) (fun _ => 0) 0, [(a, .inr (1, [.ref q1, .ref q2, .null]))]]) rfl ?_
  refine pf_X1_2 (pc := 43) C hin dX1_init_43 3 rfl ?_
  refine zj_blk (bs' := [tbl G q3 q3b 36 (nI 3) (fun _ => 0) 0, tbl G q2 q2b 120 (nI 5) (fun _ => 0) 0, tbl G q1 q1b 14 (nI 1) (fun _ => 0) 0, [(a, .inr (1, [.ref q1, .ref q2, .ref q3]))]]) rfl ?_
  refine zj_iconst (pc := 46) (v := 0) C dX1_init_46 (by decide) ?_
  refine zj_istore_n (pc := 47) C dX1_init_47 (Nat.le_of_ble_eq_true rfl) ?_
  refine zj_keep [true, true] ?_
  refine zj_blk (bs' := [tbl G q3 q3b 36 (nI 3) (fun _ => 0) 0, tbl G q2 q2b 120 (nI 5) (fun _ => 0) 0, tbl G q1 q1b 14 (nI 1) (nF (rk0 (0))) 0, [(a, .inr (1, [.ref q1, .ref q2, .ref q3]))]]) rfl ?_
  refine zj_loopW (σ := Nat) (fun x => x ≤ 14) (fun x => 14 - x) (fun x => [tbl G q3 q3b 36 (nI 3) (fun _ => 0) 0, tbl G q2 q2b 120 (nI 5) (fun _ => 0) 0, tbl G q1 q1b 14 (nI 1) (nF (rk0 (x))) 0, [(a, .inr (1, [.ref q1, .ref q2, .ref q3]))]]) (fun x => [some (.ref a), some (.int (nI x))]) ?_ 0 (Nat.zero_le _)
  intro k hk ih
  refine zj_iload_n (pc := 48) C dX1_init_48 rfl ?_
  refine zj_bipush (pc := 49) (v := 14) C dX1_init_49 (by decide) ?_
  refine zj_icmp_ge (pc := 51) 70 C dX1_init_51 (by decide) (fun c_51 => ?_) (fun c_51 => ?_)
  · have hk9 : k = 14 := Nat.le_antisymm hk (zle c_51 (by omega))
    subst hk9
    refine zj_ord [3, 2, 1, 0] rfl ?_
    refine zj_vret C hr hlocks dX1_init_70 ?_
    refine ⟨rfl, (fun k => match k with | 0 => a | 1 => q1 | 2 => q1b | 3 => q2 | 4 => q2b | 5 => q3 | _ => q3b), rfl, ?_⟩
    show List.flatten _ = List.flatten _
    rfl
  · have hk14 : k < 14 := zlt c_51 (by omega)
    refine zj_aload_n (pc := 54) C dX1_init_54 rfl ?_
    refine gf_X1_0 (pc := 55) C dX1_init_55 3 rfl ?_
    refine zj_iload_n (pc := 58) C dX1_init_58 rfl ?_
    refine zj_iconst (pc := 59) (v := 0) C dX1_init_59 (by decide) ?_
    refine zj_iconst (pc := 60) (v := 1) C dX1_init_60 (by decide) ?_
    refine zj_callF1n (pc := 61) C kv_X1_26 (m_X2_put (by decide)) dX1_init_61 2 rfl rfl rfl rfl rfl rfl rfl ⟨0, rfl⟩ rfl rfl ?_
    refine zj_iinc (pc := 64) (v := nI (k + 1)) C dX1_init_64 rfl (nI_1 _) ?_
    refine zj_goto (pc := 67) (tgt := 48) C dX1_init_67 (by decide) ?_
    refine zj_blk (bs' := [tbl G q3 q3b 36 (nI 3) (fun _ => 0) 0, tbl G q2 q2b 120 (nI 5) (fun _ => 0) 0, tbl G q1 q1b 14 (nI 1) (nF (rk0 (k + 1))) 0, [(a, .inr (1, [.ref q1, .ref q2, .ref q3]))]]) (by rw [← rk0_s, ← tPut_1 hk14 (by decide)]; rfl) ?_
    exact ih (k + 1) hk14 (by omega)
