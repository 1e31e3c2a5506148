/-! THE LAW'S OWN ROWS -/
theorem zK_of {args : Array Value} {s : State} (hts0 : ∀ w ∈ lw_tbl, w.before args s = true) : ∃ G : GG, zK G s := by
  have hts : ∀ w ∈ aw, w.before args s = true := fun w h => hts0 w (aw_tbl h)
  obtain ⟨c0, i0, k0⟩ := u_known (n := 2) hts iw_X0 (hts _ aq_143)
  obtain ⟨c1, i1, k1⟩ := u_known (n := 3) hts iw_X1 (hts _ aq_103)
  obtain ⟨c2, i2, k2⟩ := u_known (n := 3) hts iw_X2 (hts _ aq_109)
  obtain ⟨c3, i3, k3⟩ := u_known (n := 9) hts iw_X3 (hts _ aq_159)
  obtain ⟨c4, i4, k4⟩ := u_known (n := 6) hts iw_X4 (hts _ aq_194)
  obtain ⟨c5, i5, k5⟩ := u_known (n := 1) hts iw_X5 (hts _ aq_200)
  obtain ⟨c6, i6, k6⟩ := u_known (n := 9) hts iw_X6 (hts _ aq_95)
  obtain ⟨c7, i7, k7⟩ := u_known (n := 17) hts iw_X7 (hts _ aq_800)
  obtain ⟨d0, kd0, e0, f1, f2, f3⟩ := Cond.arrayClass_spec (hts _ aq_127)
  obtain ⟨d1, kd1, e1, g1, g2, g3⟩ := Cond.arrayClass_spec (hts _ aq_192)
  have ho : (Cond.arrayOver (.object "DistrictTotals$Plan")).before args s = true := hts0 _ (List.mem_of_getElem? (i := 149) (by decide +kernel))
  obtain ⟨e2, d2, kd2, o1, o2, o3, o4, o5⟩ := Cond.arrayOver_spec ho
  refine ⟨((fun j => [c0, c1, c2, c3, c4, c5, c6, c7].getD j c0, fun j => [i0, i1, i2, i3, i4, i5, i6, i7].getD j i0), fun j => [d0, d1, d2].getD j d0), ⟨⟨fun j x hx => ?_, fun j x hx => ?_⟩, va_AO.of ho⟩⟩
  · have hj : j < 8 := (List.getElem?_eq_some_iff.mp hx).1
    rcases (show j = 0 ∨ j = 1 ∨ j = 2 ∨ j = 3 ∨ j = 4 ∨ j = 5 ∨ j = 6 ∨ j = 7 by omega) with rfl | rfl | rfl | rfl | rfl | rfl | rfl | rfl <;> cases hx
    · exact k0
    · exact k1
    · exact k2
    · exact k3
    · exact k4
    · exact k5
    · exact k6
    · exact k7
  · have hj : j < 3 := (List.getElem?_eq_some_iff.mp hx).1
    rcases (show j = 0 ∨ j = 1 ∨ j = 2 by omega) with rfl | rfl | rfl <;> cases hx
    · exact ⟨fun n z => ⟨(fun k h => by cases h), kd0, f2, e0, f3⟩, f1⟩
    · exact ⟨fun n z => ⟨(fun k h => by cases h), kd1, g2, e1, g3⟩, g1⟩
    · exact ⟨fun n z => ⟨(fun k h => by cases h), kd2, o3, e2, o4⟩, kd2, e2, o3, o4, o1, o5⟩
section ZLAW
variable {p : Program} {l : Launch} {e : Env} {R : Room} {s : State} {m : MethodId} {args : Array Value} {below : List Frame} {meth : Method} {c : Code} {G : GG} {A : Nat → Prop} {cells slots : Nat} {Q : State → Prop} {bs : List va_W} {lo : List (Option Value)} {pc : Nat} {st : List Value} {cc : ByteArray} {own : String} {nL : Nat} {b L : Nat} {xs : Nat → Int32}
theorem zj_slen (C : zC p s m args c cc own nL G A) (hX : va_X b L xs s s.heap) (hbl : b < s.heap.size) (hbA : ¬ A b) (hd : decode cc pc = .ok (.arraylength, 1)) (k : Zj p l e R s m args below meth c G A cells slots Q bs lo (pc + 1) (.int (nI L) :: st)) : Zj p l e R s m args below meth c G A cells slots Q bs lo pc (.ref b :: st) := fun H locs ls hP hD hS hl => va_slen C.1 C.2.1 hX hbl hbA hS hd (k H locs ls hP hD hS hl)
theorem zj_sld (j : Nat) (C : zC p s m args c cc own nL G A) (hX : va_X b L xs s s.heap) (hbl : b < s.heap.size) (hbA : ¬ A b) (hL : L ≤ 2560) (hd : decode cc pc = .ok (.iaload, 1)) {x : Int32} (hx : x = nI j) (hj : j < L) (k : Zj p l e R s m args below meth c G A cells slots Q bs lo (pc + 1) (.int (xs j) :: st)) : Zj p l e R s m args below meth c G A cells slots Q bs lo pc (.int x :: .ref b :: st) := fun H locs ls hP hD hS hl => by
  obtain ⟨h1, h2⟩ := zin hx hj (by omega)
  refine va_sld C.1 C.2.1 hX hbl hbA hS h1 hd ?_
  rw [h2]
  exact k H locs ls hP hD hS hl
/-- script[i + k] -/
theorem zj_sarg (j : Nat) {i : Nat} {n : Int} (C : zC p s m args c cc own nL G A) (hX : va_X b L xs s s.heap) (hbl : b < s.heap.size) (hbA : ¬ A b) (hL : L ≤ 2560) (hi : i + 5 ≤ L) (hj : j < 5) (hn : Int32.ofInt n = nI j) (h0 : lo[0]? = some (some (.ref b))) (h3 : lo[3]? = some (some (.int (nI i)))) (d0 : decode cc pc = .ok (.aload_n 0, 1)) (d1 : decode cc (pc + 1) = .ok (.iload_n 3, 1)) (d2 : decode cc (pc + 1 + 1) = .ok (.iconst n, 1)) (d3 : decode cc (pc + 1 + 1 + 1) = .ok (.iadd, 1)) (d4 : decode cc (pc + 1 + 1 + 1 + 1) = .ok (.iaload, 1)) (k : Zj p l e R s m args below meth c G A cells slots Q bs lo (pc + 5) (.int (xs (i + j)) :: st)) : Zj p l e R s m args below meth c G A cells slots Q bs lo pc st := by
  refine zj_aload_n C d0 h0 ?_
  refine zj_iload_n C d1 h3 ?_
  refine zj_iconst C d2 hn ?_
  refine zj_iadd C d3 ?_
  exact zj_sld (i + j) C hX hbl hbA hL d4 (nI_add i j) (by omega) k
theorem zj_swap {w1 w2 : va_W} (k : Zj p l e R s m args below meth c G A cells slots Q [w1, w2] lo pc st) : Zj p l e R s m args below meth c G A cells slots Q [w2, w1] lo pc st := zj_eqp (by simpa using List.perm_append_comm) k
/-- with these very locals -/
def ZL (p : Program) (l : Launch) (e : Env) (R : Room) (s : State) (m : MethodId) (args : Array Value) (below : List Frame) (meth : Method) (c : Code) (G : GG) (A : Nat → Prop) (cells slots : Nat) (Q : State → Prop) (bs : List va_W) (ls : Array Slot) (pc : Nat) (st : List Value) : Prop :=
  ∀ (H : Heap) (locs : List Loc), va_P G.1 vwCl bs.flatten H → va_D A bs.flatten → va_S A s.heap H locs → W p l e R s m args below meth c H locs cells slots Q (F0 m pc ls st)
variable {ls : Array Slot}
theorem zl_callV {y : MethodName} {cy : ByteArray} {maxL fr lc mc ms index n : Nat} {rt : Option FieldType} {b : Nat} {As : List Value} {wc : va_W} {Qu : Option Value → va_W → Prop} (C : zC p s m args c cc own nL G A) (hV : zV own index y cy maxL rt n) (hM : zX l G y cy maxL rt fr lc mc ms (.ref b :: As) wc Qu) (hd : decode cc pc = .ok (.invokevirtual index, 3)) (hR : fr + 1 ≤ R.frames ∧ 8 + (maxL + 11) + lc ≤ R.locals) (hn : As.length = n) (hcap : (st.map fun v => v.category).sum ≤ 8) (hcs : cells + mc ≤ R.cells ∧ slots + ms ≤ R.slots) (hnl : ls.size = nL) (is jr : List Nat) (hp : (is ++ jr).isPerm (List.range bs.length) = true) (hC : (zpk bs is).flatten = wc) {ci : Nat} {fs : List Value} {q : vw_C} {k0 : Nat} (hrec : wc[k0]? = some (b, .inr (ci, fs))) (hci : vwCl[ci]? = some q) (hqc : q.1 = y.cls)
    (k : ∀ v w1, Qu v w1 → ZL p l e R s m args below meth c G A (cells + mc) (slots + ms) Q (w1 :: zpk bs jr) ls (pc + 3) (v.toList ++ st)) {st0 : List Value} (hst : st0 = As.reverse ++ .ref b :: st) : ZL p l e R s m args below meth c G A cells slots Q bs ls pc st0 := by
  intro H locs hP hD hS
  subst hst
  obtain ⟨v1, v2, v3, v4, v5, v6, v7, v8⟩ := hV
  have hperm := zp_perm hp
  rw [hC] at hperm
  have hP2 := zv_permP hperm hP
  have hD2 := zv_permD hperm hD
  have hG : GoodIn aw (wsV own index y.cls y (.code y cy maxL rt :: aw)) := by
    intro w hw
    rcases List.mem_append.mp hw with h | h
    · rcases List.mem_cons.mp h with rfl | h
      · exact aw_good (fun _ h => h) _ v1
      rcases List.mem_cons.mp h with rfl | h
      · exact aw_good (fun _ h => h) _ v2
      rcases List.mem_cons.mp h with rfl | h
      · exact aw_good (fun _ h => h) _ v3
      rcases List.mem_cons.mp h with rfl | h
      · exact aw_good (fun _ h => h) _ v4
      cases h
    · exact aw_goodc (fun _ h => h) v5 w h
  have hPc : va_P G.1 vwCl wc H := zv_mem.mpr fun x hx => zv_mem.mp hP2 x (List.mem_append_left _ hx)
  have hDc : va_D (fun _ => True) wc := by
    have := zv_iff.mp hD2
    rw [List.map_append, List.nodup_append] at this
    exact zv_iff.mpr ⟨this.1.1, fun _ _ => trivial⟩
  have hFc : ∀ x, va_A wc H.size x → A x := by
    intro x hx
    rcases hx with ⟨k0, e0, h0⟩ | h0
    · exact (zv_iff.mp hD2).2 (x, e0) (List.mem_append_left _ (List.mem_of_getElem? h0))
    · exact C.2.2.2.2.2.2 x (Nat.le_trans hS.1 h0)
  refine z_call (A1 := va_A wc H.size) (free := va_A wc H.size) (Qu := Qu) (mc := mc) (ms := ms) (rest := st) (va_runV (C := y.cls) (As := As) (rest := st) (b := b) ⟨C.1, C.2.1, C.2.2.1, C.2.2.2.1, C.2.2.2.2.1⟩ (hM H.size) (cwV n C.2.2.2.2.1 hG rfl rfl rfl ⟨rfl, v6, v7, v8⟩ hR) ⟨z_blind, ?_, fun U hU hW => ⟨rfl, by rw [hU], by rw [hU]; exact hPc, zK_moved hW.alike C.2.2.2.2.2.1, hDc⟩⟩ rfl hn hnl rfl (lv_room hcap) hd hcs) hS (fun x _ h => hFc x h) hFc ?_
  · have := va_recv (q := q) C.2.2.2.2.2.1.1 hPc hci (q0 := k0) hrec
    rw [hqc] at this
    exact this
  · intro v w1 H1 locs1 hq hP1 hD1 hk1 hS1
    obtain ⟨hP3, hD3⟩ := z_join hP2 hD2 hk1 hFc hP1 hD1
    exact k v w1 hq H1 locs1 hP3 hD3 hS1
theorem zl_sarg (j : Nat) {i : Nat} {n : Int} (C : zC p s m args c cc own nL G A) (hX : va_X b L xs s s.heap) (hbl : b < s.heap.size) (hbA : ¬ A b) (hL : L ≤ 2560) (hi : i + 5 ≤ L) (hj : j < 5) (hn : Int32.ofInt n = nI j) (h0 : ls[0]? = some (.val (.ref b))) (h3 : ls[3]? = some (.val (.int (nI i)))) (d0 : decode cc pc = .ok (.aload_n 0, 1)) (d1 : decode cc (pc + 1) = .ok (.iload_n 3, 1)) (d2 : decode cc (pc + 1 + 1) = .ok (.iconst n, 1)) (d3 : decode cc (pc + 1 + 1 + 1) = .ok (.iadd, 1)) (d4 : decode cc (pc + 1 + 1 + 1 + 1) = .ok (.iaload, 1)) (k : ZL p l e R s m args below meth c G A cells slots Q bs ls (pc + 5) (.int (xs (i + j)) :: st)) : ZL p l e R s m args below meth c G A cells slots Q bs ls pc st := by
  intro H locs hP hD hS
  refine lv_aload_n C.1 C.2.1 d0 rfl h0 ?_
  refine lv_iload_n C.1 C.2.1 d1 rfl h3 ?_
  refine lv_iconst C.1 C.2.1 d2 hn ?_
  refine lv_iadd C.1 C.2.1 d3 ?_
  obtain ⟨h1, h2⟩ := zin (x := nI i + nI j) (j := i + j) (n := L) (nI_add i j) (by omega) (by omega)
  refine va_sld C.1 C.2.1 hX hbl hbA hS h1 d4 ?_
  rw [h2]
  exact k H locs hP hD hS
end ZLAW
theorem and31 (x : Int32) : ∃ k : Nat, k < 32 ∧ x &&& 31 = nI k := by
  refine ⟨(x &&& 31).toBitVec.toNat, ?_, ?_⟩
  · have : (x &&& 31).toBitVec.toNat ≤ 31 := by
      rw [Int32.toBitVec_and, BitVec.toNat_and]
      exact Nat.and_le_right
    omega
  · apply Int32.toBitVec_inj.mp
    apply BitVec.eq_of_toNat_eq
    show _ = (BitVec.ofNat 32 _).toNat
    rw [BitVec.toNat_ofNat]
    exact (Nat.mod_eq_of_lt (x &&& 31).toBitVec.isLt).symm
