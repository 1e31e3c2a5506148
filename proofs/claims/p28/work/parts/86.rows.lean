/-! THE LAW'S OWN ROWS -/
/-- a contract, by what may be said of answer and world -/
def zY (l : Launch) (G : GG) (y : MethodName) (cc : ByteArray) (nL : Nat) (rt : Option FieldType) (fr lc : Nat) (av : List Value) (wc : va_W) (r : Value) (Pw : va_W → Prop) : Prop := ∃ Qu : Option Value → va_W → Prop, zX l G y cc nL rt fr lc 0 0 av wc Qu ∧ ∀ v w, Qu v w → v = some r ∧ Pw w
abbrev zQ (r : Value) (Pw : va_W → Prop) : Option Value → va_W → Prop := fun v w => v = some r ∧ Pw w
theorem zY_of {l : Launch} {G : GG} {y : MethodName} {cc : ByteArray} {nL : Nat} {rt : Option FieldType} {fr lc : Nat} {av : List Value} {wc : va_W} {r : Value} {Pw : va_W → Prop} (h : zX l G y cc nL rt fr lc 0 0 av wc (zQ r Pw)) : zY l G y cc nL rt fr lc av wc r Pw := ⟨_, h, fun _ _ q => q⟩
section ZR
variable {p : Program} {l : Launch} {e : Env} {R : Room} {s : State} {m : MethodId} {args : Array Value} {below : List Frame} {meth : Method} {c : Code} {G : GG} {A : Nat → Prop} {cells slots : Nat} {Q : State → Prop} {bs : List va_W} {lo : List (Option Value)} {pc : Nat} {st : List Value} {cc : ByteArray} {own : String} {nL : Nat}
theorem zj_callQ {y : MethodName} {cy : ByteArray} {maxL fr lc index n : Nat} {rt : Option FieldType} {b : Nat} {As : List Value} {wc : va_W} {r : Value} {Pw : va_W → Prop} (C : zC p s m args c cc own nL G A) (hV : zV own index y cy maxL rt n) (hM : zY l G y cy maxL rt fr lc (.ref b :: As) wc r Pw) (hd : decode cc pc = .ok (.invokevirtual index, 3)) (i : Nat) (hbi : bs[i]? = some wc) {st0 : List Value} (hst : st0 = As.reverse ++ .ref b :: st) (hR : (Nat.ble (fr + 1) R.frames && Nat.ble (8 + (maxL + 11) + lc) R.locals) = true) (hn : As.length = n) (hcap : Nat.ble (st.map fun v => v.category).sum 8 = true) (hcs : (Nat.ble cells R.cells && Nat.ble slots R.slots) = true) (hnl : lo.length = nL) (hrec : ∃ (fs : List Value) (k0 : Nat), wc[k0]? = some (b, .inr (6, fs))) (hqc : RX6 = y.cls)
    (k : ∀ w1, Pw w1 → Zj p l e R s m args below meth c G A cells slots Q (bs.set i w1) lo (pc + 3) (r :: st)) : Zj p l e R s m args below meth c G A cells slots Q bs lo pc st0 := by
  obtain ⟨rest, hp, hs⟩ := zr_1 hbi
  obtain ⟨fs, k0, h⟩ := hrec
  obtain ⟨Qu, hX, hQ⟩ := hM
  refine zj_callR (mc := 0) (ms := 0) C hV hX hd hp hst hR hn hcap hcs hnl (ci := 6) (fs := fs) (q := (RX6, TX6, 9)) ⟨k0, h⟩ rfl hqc (fun v w1 hq => ?_)
  obtain ⟨rfl, hw⟩ := hQ v w1 hq
  refine zj_eqp (bs' := bs.set i w1) ?_ (k w1 hw)
  simpa using (hs w1).symm
theorem zj_callSW {y : MethodName} {cy : ByteArray} {maxL fr lc index n : Nat} {rt : Option FieldType} {As : List Value} {wc : va_W} {Qu : Option Value → va_W → Prop} (C : zC p s m args c cc own nL G A) (hV : zS own index y cy maxL rt n) (hM : zX l G y cy maxL rt fr lc 0 0 As wc Qu) (hd : decode cc pc = .ok (.invokestatic index, 3)) (hR : fr + 1 ≤ R.frames ∧ 8 + (maxL + 11) + lc ≤ R.locals) (hn : As.length = n) (hcap : (st.map fun v => v.category).sum ≤ 8) (hcs : cells ≤ R.cells ∧ slots ≤ R.slots) (hnl : lo.length = nL) {rest : va_W} (hperm : bs.flatten.Perm (wc ++ rest))
    (k : ∀ v w1, Qu v w1 → Zj p l e R s m args below meth c G A cells slots Q [w1, rest] lo (pc + 3) (v.toList ++ st)) {st0 : List Value} (hst : st0 = As.reverse ++ st) : Zj p l e R s m args below meth c G A cells slots Q bs lo pc st0 := by
  intro H locs ls hP hD hS hl
  subst hst
  obtain ⟨v0, v1, v2, v4, v5, v6, v7, v8⟩ := hV
  have hP2 := zv_permP hperm hP
  have hD2 := zv_permD hperm hD
  have hG : GoodIn aw (wsS own index y (.code y cy maxL rt :: aw)) := by
    intro w hw
    rcases List.mem_append.mp hw with h | h
    · rcases List.mem_cons.mp h with rfl | h
      · exact aw_good (fun _ h => h) _ v1
      rcases List.mem_cons.mp h with rfl | h
      · exact aw_good (fun _ h => h) _ v2
      rcases List.mem_cons.mp h with rfl | h
      · rw [← v0]; exact aw_good (fun _ h => h) _ v4
      cases h
    · exact aw_goodc (fun _ h => h) v5 w h
  have hPc : va_P G.1 vwCl wc H := zv_mem.mpr fun x hx => zv_mem.mp hP2 x (List.mem_append_left _ hx)
  have hDc : va_D (fun _ => True) wc := by
    have := zv_iff.mp hD2
    rw [List.map_append, List.nodup_append] at this
    exact zv_iff.mpr ⟨this.1.1, fun _ _ => trivial⟩
  have hFc : ∀ x, va_A wc H.size x → A x := by
    intro x hx
    rcases hx with ⟨k0, e0, h0⟩ | h0
    · exact (zv_iff.mp hD2).2 (x, e0) (List.mem_append_left _ (List.mem_of_getElem? h0))
    · exact C.2.2.2.2.2.2 x (Nat.le_trans hS.1 h0)
  refine z_call (A1 := va_A wc H.size) (free := va_A wc H.size) (Qu := Qu) (mc := 0) (ms := 0) (rest := st) (va_runS (As := As) (rest := st) ⟨C.1, C.2.1, C.2.2.1, C.2.2.2.1, C.2.2.2.2.1⟩ (hM H.size) (cwS n C.2.2.2.2.1 hG rfl rfl rfl ⟨v0, v6, v7, v8⟩ hR) ⟨z_blind, fun U hU hW => ⟨rfl, by rw [hU], by rw [hU]; exact hPc, zK_moved hW.alike C.2.2.2.2.2.1, hDc⟩⟩ rfl hn (by rw [hl.1]; exact hnl) rfl (lv_room hcap) hd hcs) hS (fun x _ h => hFc x h) hFc ?_
  intro v w1 H1 locs1 hq hP1 hD1 hk1 hS1
  obtain ⟨hP3, hD3⟩ := z_join hP2 hD2 hk1 hFc hP1 hD1
  exact k v w1 hq H1 locs1 ls (by simpa using hP3) (by simpa using hD3) hS1 hl
/-- a static call over one block -/
theorem zj_callS1 {y : MethodName} {cy : ByteArray} {maxL fr lc index n : Nat} {rt : Option FieldType} {As : List Value} {wc : va_W} {r : Value} {Pw : va_W → Prop} (C : zC p s m args c cc own nL G A) (hV : zS own index y cy maxL rt n) (hM : zY l G y cy maxL rt fr lc As wc r Pw) (hd : decode cc pc = .ok (.invokestatic index, 3)) (i : Nat) (hbi : bs[i]? = some wc) {st0 : List Value} (hst : st0 = As.reverse ++ st) (hR : (Nat.ble (fr + 1) R.frames && Nat.ble (8 + (maxL + 11) + lc) R.locals) = true) (hn : As.length = n) (hcap : Nat.ble (st.map fun v => v.category).sum 8 = true) (hcs : (Nat.ble cells R.cells && Nat.ble slots R.slots) = true) (hnl : lo.length = nL)
    (k : ∀ w1, Pw w1 → Zj p l e R s m args below meth c G A cells slots Q (bs.set i w1) lo (pc + 3) (r :: st)) : Zj p l e R s m args below meth c G A cells slots Q bs lo pc st0 := by
  obtain ⟨rest, hp, hs⟩ := zr_1 hbi
  obtain ⟨Qu, hX, hQ⟩ := hM
  refine zj_callSW C hV hX hd (zn_and hR) hn (Nat.le_of_ble_eq_true hcap) (zn_and hcs) hnl hp (fun v w1 hq => ?_) hst
  obtain ⟨rfl, hw⟩ := hQ v w1 hq
  refine zj_eqp (bs' := bs.set i w1) ?_ (k w1 hw)
  simpa using (hs w1).symm
/-- a static call over both blocks -/
theorem zj_callS2 {y : MethodName} {cy : ByteArray} {maxL fr lc index n : Nat} {rt : Option FieldType} {As : List Value} {w0 w1 : va_W} {r : Value} {P0 P1 : va_W → Prop} (C : zC p s m args c cc own nL G A) (hV : zS own index y cy maxL rt n) (hM : zY l G y cy maxL rt fr lc As (w0 ++ w1) r (fun w => ∃ u0 u1, w = u0 ++ u1 ∧ P0 u0 ∧ P1 u1)) (hd : decode cc pc = .ok (.invokestatic index, 3)) {st0 : List Value} (hst : st0 = As.reverse ++ st) (hR : (Nat.ble (fr + 1) R.frames && Nat.ble (8 + (maxL + 11) + lc) R.locals) = true) (hn : As.length = n) (hcap : Nat.ble (st.map fun v => v.category).sum 8 = true) (hcs : (Nat.ble cells R.cells && Nat.ble slots R.slots) = true) (hnl : lo.length = nL)
    (k : ∀ u0 u1, P0 u0 → P1 u1 → Zj p l e R s m args below meth c G A cells slots Q [u0, u1] lo (pc + 3) (r :: st)) : Zj p l e R s m args below meth c G A cells slots Q [w0, w1] lo pc st0 := by
  obtain ⟨Qu, hX, hQ⟩ := hM
  refine zj_callSW C hV hX hd (zn_and hR) hn (Nat.le_of_ble_eq_true hcap) (zn_and hcs) hnl (rest := []) (by simp) (fun v w1 hq => ?_) hst
  obtain ⟨rfl, u0, u1, rfl, h0, h1⟩ := hQ v w1 hq
  exact zj_blk (bs' := [u0, u1]) (by simp) (k u0 u1 h0 h1)
theorem zj_fcmpl {x y : UInt32} (C : zC p s m args c cc own nL G A) (hd : decode cc pc = .ok (.fcmp .l, 1)) (k : Zj p l e R s m args below meth c G A cells slots Q bs lo (pc + 1) (.int (Op.cmpValue (FP.fcmp x y) .l) :: st)) : Zj p l e R s m args below meth c G A cells slots Q bs lo pc (.float y :: .float x :: st) := fun H locs ls hP hD hS hl => lv_fcmp C.1 C.2.1 hd (k H locs ls hP hD hS hl)
end ZR
/-- reading the script -/
def zXs (l : Launch) (G : GG) (y : MethodName) (cc : ByteArray) (nL : Nat) (rt : Option FieldType) (fr lc : Nat) (b L : Nat) (xs : Nat → Int32) (av : List Value) (r : Value) : Prop :=
  ∀ sz, Met l y (.code y cc nL rt :: aw) ({ frames := fr, cells := 0, slots := 0, locals := lc }) (va_Pc av (fun U => U.heap.size = sz ∧ b < sz ∧ va_X b L xs U U.heap ∧ zK G U)) (fun _ st oc t => (∃ (v : Option Value) (w1 : va_W), oc = .returned v ∧ zF (some r) [] v w1 ∧ va_P G.1 vwCl w1 t.heap ∧ va_D (va_A [] sz) w1) ∧ va_F (va_A [] sz) st t) 0 0 (va_A [] sz)
theorem zs_start {l : Launch} {G : GG} {y : MethodName} {cc : ByteArray} {nL : Nat} {rt : Option FieldType} {fr lc : Nat} {b L : Nat} {xs : Nat → Int32} {av : List Value} {r : Value} {own : String} (hy : plainName y.cls = true) (hown : y.cls = own) (hcat : av.all (fun v => v.category == 1) = true) (hlen : Nat.ble av.length nL = true) {lo : List (Option Value)} (hlo : av.map some ++ List.replicate (nL - av.length) none = lo)
    (body : ∀ (p : Program) (e : Env) (s : State) (m : MethodId) (args : Array Value) (below : List Frame) (meth : Method) (c : Code) (A : Nat → Prop), zC p s m args c cc own nL G A → meth.sig.returnType = rt → meth.locks = false → va_X b L xs s s.heap → b < s.heap.size → ¬ A b →
      Zj p l e ({ frames := fr, cells := 0, slots := 0, locals := lc } : Room) s m args below meth c G A 0 0 (MQ below (fun _ st oc t => (∃ (v : Option Value) (w1 : va_W), oc = .returned v ∧ zF (some r) [] v w1 ∧ va_P G.1 vwCl w1 t.heap ∧ va_D A w1) ∧ va_F A st t) args s 0 0 A) [] lo 0 []) : zXs l G y cc nL rt fr lc b L xs av r := by
  intro sz
  refine Met.ofW (cc := cc) (maxL := nL) (ret := rt) hy rfl ?_
  intro p e s m args below meth c s₁ B hml hv
  obtain ⟨rfl, hsz, hb, hX, hK⟩ := hv
  have hts := atoms_spec (ws := .code y cc nL rt :: aw) B.pre
  have hown' : s.vm.findClass own = some m.cls := by rw [← hown]; exact findClass_of_methodNamed B.named
  subst hsz
  have hcat' : ∀ v ∈ av, v.category = 1 := fun v hv => by
    have := List.all_eq_true.mp hcat v hv
    simpa using this
  have hnA : ¬ va_A [] s.heap.size b := by
    rintro (⟨k0, e0, h0⟩ | h0)
    · cases h0
    · omega
  have h := body p e s m av.toArray below meth c (va_A [] s.heap.size) ⟨B.exec, B.bytes, hml, hown', fun w hw => hts w (List.mem_cons_of_mem _ hw), hK, fun q hq => Or.inr hq⟩ B.returns B.notSynchronized hX hb hnA
  rw [lg_entry_eq]
  have hPn : va_P G.1 vwCl [] s.heap := zv_mem.mpr fun x hx => absurd hx List.not_mem_nil
  have hDn : va_D (va_A [] s.heap.size) [] := zv_iff.mpr ⟨List.nodup_nil, fun x hx => absurd hx List.not_mem_nil⟩
  exact h s.heap [] _ hPn hDn va_S.rf (by rw [← hlo]; exact zl_entry av nL hcat' (Nat.le_of_ble_eq_true hlen))
theorem zs_blind {G : GG} {av : List Value} {sz b L : Nat} {xs : Nat → Int32} : FrameBlind (va_Pc av (fun U => U.heap.size = sz ∧ b < sz ∧ va_X b L xs U U.heap ∧ zK G U)) := fun a U g mk q => by
  obtain ⟨q0, q1, qb, qX, qK⟩ := q
  exact ⟨q0, q1, qb, va_X.moved (u := U) (U := U.calling g mk a) (Vm.Alike.refl U.vm) qX, zK_moved (u := U) (U := U.calling g mk a) (Vm.Alike.refl U.vm) qK⟩
section ZS2
variable {p : Program} {l : Launch} {e : Env} {R : Room} {s : State} {m : MethodId} {args : Array Value} {below : List Frame} {meth : Method} {c : Code} {G : GG} {A : Nat → Prop} {cells slots : Nat} {Q : State → Prop} {bs : List va_W} {lo : List (Option Value)} {pc : Nat} {st : List Value} {cc : ByteArray} {own : String} {nL : Nat}
variable {b L : Nat} {xs : Nat → Int32}
theorem zj_slen (C : zC p s m args c cc own nL G A) (hX : va_X b L xs s s.heap) (hbl : b < s.heap.size) (hbA : ¬ A b) (hd : decode cc pc = .ok (.arraylength, 1)) (k : Zj p l e R s m args below meth c G A cells slots Q bs lo (pc + 1) (.int (nI L) :: st)) : Zj p l e R s m args below meth c G A cells slots Q bs lo pc (.ref b :: st) := fun H locs ls hP hD hS hl => va_slen C.1 C.2.1 hX hbl hbA hS hd (k H locs ls hP hD hS hl)
theorem zj_sld (j : Nat) (C : zC p s m args c cc own nL G A) (hX : va_X b L xs s s.heap) (hbl : b < s.heap.size) (hbA : ¬ A b) (hL : L ≤ 260) (hd : decode cc pc = .ok (.iaload, 1)) {x : Int32} (hx : x = nI j) (hj : j < L) (k : Zj p l e R s m args below meth c G A cells slots Q bs lo (pc + 1) (.int (xs j) :: st)) : Zj p l e R s m args below meth c G A cells slots Q bs lo pc (.int x :: .ref b :: st) := fun H locs ls hP hD hS hl => by
  obtain ⟨h1, h2⟩ := zin hx hj (by omega)
  refine va_sld C.1 C.2.1 hX hbl hbA hS h1 hd ?_
  rw [h2]
  exact k H locs ls hP hD hS hl
theorem zj_callX {y : MethodName} {cy : ByteArray} {maxL fr lc index n : Nat} {rt : Option FieldType} {As : List Value} {r : Value} (C : zC p s m args c cc own nL G A) (hV : zS own index y cy maxL rt n) (hM : zXs l G y cy maxL rt fr lc b L xs As r) (hX : va_X b L xs s s.heap) (hbl : b < s.heap.size) (hbA : ¬ A b) (hd : decode cc pc = .ok (.invokestatic index, 3)) (hR : (Nat.ble (fr + 1) R.frames && Nat.ble (8 + (maxL + 11) + lc) R.locals) = true) (hn : As.length = n) (hcap : Nat.ble (st.map fun v => v.category).sum 8 = true) (hcs : (Nat.ble cells R.cells && Nat.ble slots R.slots) = true) (hnl : lo.length = nL) {st0 : List Value} (hst : st0 = As.reverse ++ st)
    (k : Zj p l e R s m args below meth c G A cells slots Q bs lo (pc + 3) (r :: st)) : Zj p l e R s m args below meth c G A cells slots Q bs lo pc st0 := by
  intro H locs ls hP hD hS hl
  subst hst
  obtain ⟨v0, v1, v2, v4, v5, v6, v7, v8⟩ := hV
  have hG : GoodIn aw (wsS own index y (.code y cy maxL rt :: aw)) := by
    intro w hw
    rcases List.mem_append.mp hw with h | h
    · rcases List.mem_cons.mp h with rfl | h
      · exact aw_good (fun _ h => h) _ v1
      rcases List.mem_cons.mp h with rfl | h
      · exact aw_good (fun _ h => h) _ v2
      rcases List.mem_cons.mp h with rfl | h
      · rw [← v0]; exact aw_good (fun _ h => h) _ v4
      cases h
    · exact aw_goodc (fun _ h => h) v5 w h
  have hFc : ∀ x, va_A [] H.size x → A x := by
    intro x hx
    rcases hx with ⟨k0, e0, h0⟩ | h0
    · cases h0
    · exact C.2.2.2.2.2.2 x (Nat.le_trans hS.1 h0)
  have hXH : va_X b L xs s H := va_X.kept hX (hS.2.1 b hbl hbA)
  refine z_call (A1 := va_A [] H.size) (free := va_A [] H.size) (Qu := zF (some r) []) (mc := 0) (ms := 0) (rest := st) (va_runS (As := As) (rest := st) ⟨C.1, C.2.1, C.2.2.1, C.2.2.2.1, C.2.2.2.2.1⟩ (hM H.size) (cwS n C.2.2.2.2.1 hG rfl rfl rfl ⟨v0, v6, v7, v8⟩ (zn_and hR)) ⟨zs_blind, fun U hU hW => ⟨rfl, by rw [hU], Nat.lt_of_lt_of_le hbl hS.1, by rw [hU]; exact va_X.moved hW.alike hXH, zK_moved hW.alike C.2.2.2.2.2.1⟩⟩ rfl hn (by rw [hl.1]; exact hnl) rfl (lv_room (Nat.le_of_ble_eq_true hcap)) hd (zn_and hcs)) hS (fun x _ h => hFc x h) hFc ?_
  intro v w1 H1 locs1 hq hP1 hD1 hk1 hS1
  obtain ⟨rfl, rfl⟩ := hq
  obtain ⟨hP3, hD3⟩ := z_join (wc := []) (rest := bs.flatten) hP hD hk1 hFc hP1 hD1
  exact k H1 locs1 ls hP3 hD3 hS1 hl
end ZS2
