section ZK
variable {p : Program} {l : Launch} {e : Env} {R : Room} {s : State} {m : MethodId} {args : Array Value} {below : List Frame} {meth : Method} {c : Code} {G : GG} {A : Nat → Prop} {cells slots : Nat} {Q : State → Prop} {bs : List va_W} {lo : List (Option Value)} {pc : Nat} {st : List Value} {cc : ByteArray} {own : String} {nL : Nat}
/-- some of the locals are kept -/
def zkeep : List (Option Value) → List Bool → List (Option Value)
  | x :: l, true :: b => x :: zkeep l b
  | _ :: l, false :: b => none :: zkeep l b
  | l, [] => l
  | [], _ => []
theorem zkeep_len : ∀ (lo : List (Option Value)) (b : List Bool), (zkeep lo b).length = lo.length
  | x :: l, true :: b => by simp [zkeep, zkeep_len l b]
  | x :: l, false :: b => by simp [zkeep, zkeep_len l b]
  | [], [] => rfl
  | x :: l, [] => rfl
  | [], true :: _ => rfl
  | [], false :: _ => rfl
theorem zkeep_sub : ∀ (lo : List (Option Value)) (b : List Bool) (i : Nat) (v : Value), (zkeep lo b)[i]? = some (some v) → lo[i]? = some (some v)
  | x :: l, true :: b, 0, v, h => h
  | x :: l, true :: b, i + 1, v, h => zkeep_sub l b i v h
  | x :: l, false :: b, 0, v, h => by cases h
  | x :: l, false :: b, i + 1, v, h => zkeep_sub l b i v h
  | [], [], i, v, h => h
  | x :: l, [], i, v, h => h
  | [], true :: _, i, v, h => h
  | [], false :: _, i, v, h => h
theorem zj_keep (b : List Bool) (k : Zj p l e R s m args below meth c G A cells slots Q bs (zkeep lo b) pc st) : Zj p l e R s m args below meth c G A cells slots Q bs lo pc st := zj_forget (zkeep_len lo b) (zkeep_sub lo b) k

theorem zj_iretF {v r : Int32} {w : va_W} (C : zC p s m args c cc own nL G A) (hr : meth.sig.returnType = some .int) (hlocks : meth.locks = false) (hd : decode cc pc = .ok (.ireturn, 1)) (hv : v = r) (hw : bs.flatten = w) : Zj p l e R s m args below meth c G A cells slots (MQ below (fun _ st oc t => (∃ (v : Option Value) (w1 : va_W), oc = .returned v ∧ zF (some (.int r)) w v w1 ∧ va_P G.1 vwCl w1 t.heap ∧ va_D A w1) ∧ va_F A st t) args s cells slots A) bs lo pc [.int v] := zj_iret (Qu := zF (some (.int r)) w) C hr hlocks hd ⟨by rw [hv], hw⟩
theorem zj_fretF {v r : UInt32} {w : va_W} (C : zC p s m args c cc own nL G A) (hr : meth.sig.returnType = some .float) (hlocks : meth.locks = false) (hd : decode cc pc = .ok (.freturn, 1)) (hv : v = r) (hw : bs.flatten = w) : Zj p l e R s m args below meth c G A cells slots (MQ below (fun _ st oc t => (∃ (v : Option Value) (w1 : va_W), oc = .returned v ∧ zF (some (.float r)) w v w1 ∧ va_P G.1 vwCl w1 t.heap ∧ va_D A w1) ∧ va_F A st t) args s cells slots A) bs lo pc [.float v] := zj_fret (Qu := zF (some (.float r)) w) C hr hlocks hd ⟨by rw [hv], hw⟩
theorem zj_zretF {v : Int32} {b : Bool} {w : va_W} (C : zC p s m args c cc own nL G A) (hr : meth.sig.returnType = some .boolean) (hlocks : meth.locks = false) (hd : decode cc pc = .ok (.ireturn, 1)) (hv : v = bI b) (hw : bs.flatten = w) : Zj p l e R s m args below meth c G A cells slots (MQ below (fun _ st oc t => (∃ (v : Option Value) (w1 : va_W), oc = .returned v ∧ zF (some (.int (bI b))) w v w1 ∧ va_P G.1 vwCl w1 t.heap ∧ va_D A w1) ∧ va_F A st t) args s cells slots A) bs lo pc [.int v] := zj_zret (Qu := zF (some (.int (bI b))) w) C hr hlocks hd (by subst hv; cases b <;> simp [bI]) ⟨by rw [hv], hw⟩
theorem zj_vretF {w : va_W} (C : zC p s m args c cc own nL G A) (hr : meth.sig.returnType = none) (hlocks : meth.locks = false) (hd : decode cc pc = .ok (.return_, 1)) (hw : bs.flatten = w) : Zj p l e R s m args below meth c G A cells slots (MQ below (fun _ st oc t => (∃ (v : Option Value) (w1 : va_W), oc = .returned v ∧ zF none w v w1 ∧ va_P G.1 vwCl w1 t.heap ∧ va_D A w1) ∧ va_F A st t) args s cells slots A) bs lo pc [] := zj_vret (Qu := zF none w) C hr hlocks hd ⟨rfl, hw⟩
theorem zn_and {a b c d : Nat} (h : (Nat.ble a b && Nat.ble c d) = true) : a ≤ b ∧ c ≤ d := by
  rw [Bool.and_eq_true] at h
  exact ⟨Nat.le_of_ble_eq_true h.1, Nat.le_of_ble_eq_true h.2⟩
theorem zj_startF {y : MethodName} {rt : Option FieldType} {fr lc : Nat} {av : List Value} {wc : va_W} {Qu : Option Value → va_W → Prop} (own : String) (hy : plainName y.cls = true) (hown : y.cls = own) (hcat : av.all (fun v => v.category == 1) = true) (hlen : Nat.ble av.length nL = true) {bs : List va_W} (hbs : wc = bs.flatten) {lo : List (Option Value)} (hlo : av.map some ++ List.replicate (nL - av.length) none = lo)
    (body : ∀ (p : Program) (e : Env) (s : State) (m : MethodId) (args : Array Value) (below : List Frame) (meth : Method) (c : Code) (A : Nat → Prop), zC p s m args c cc own nL G A → meth.sig.returnType = rt → meth.locks = false → 
      Zj p l e ({ frames := fr, cells := 0, slots := 0, locals := lc } : Room) s m args below meth c G A 0 0 (MQ below (fun _ st oc t => (∃ (v : Option Value) (w1 : va_W), oc = .returned v ∧ Qu v w1 ∧ va_P G.1 vwCl w1 t.heap ∧ va_D A w1) ∧ va_F A st t) args s 0 0 A) bs lo 0 []) : zX l G y cc nL rt fr lc 0 0 av wc Qu := by
  refine zj_start hy hown (fun v hv => ?_) (Nat.le_of_ble_eq_true hlen) (fun p e s m args below meth c A hA C hr hlocks hin => ?_)
  · have := List.all_eq_true.mp hcat v hv
    simpa using this
  · rw [hlo]
    refine zj_blk (bs' := bs) (by rw [hbs, List.flatten_singleton]) ?_
    exact body p e s m args below meth c A C hr hlocks
/-- one, two, three blocks by their places: the rest -/
theorem zr_1 {bs : List va_W} {i : Nat} {w0 : va_W} (h : bs[i]? = some w0) : ∃ rest : va_W, bs.flatten.Perm (w0 ++ rest) ∧ ∀ w, (bs.set i w).flatten.Perm (w ++ rest) := by
  induction bs generalizing i with
  | nil => cases h
  | cons b l ih =>
    cases i with
    | zero => cases h; exact ⟨l.flatten, List.Perm.refl _, fun w => List.Perm.refl _⟩
    | succ i =>
      obtain ⟨r, h1, h2⟩ := ih (i := i) h
      refine ⟨b ++ r, ?_, fun w => ?_⟩
      · rw [List.flatten_cons]
        exact (h1.append_left b).trans (by rw [← List.append_assoc, ← List.append_assoc]; exact List.perm_append_comm.append_right r)
      · rw [List.set_cons_succ, List.flatten_cons]
        exact ((h2 w).append_left b).trans (by rw [← List.append_assoc, ← List.append_assoc]; exact List.perm_append_comm.append_right r)
theorem zr_2 {bs : List va_W} {i j : Nat} {w0 w1 : va_W} (h : bs[i]? = some w0) (h1 : bs[j]? = some w1) (hne : (i == j) = false) : ∃ rest : va_W, bs.flatten.Perm (w0 ++ (w1 ++ rest)) ∧ ∀ w, (bs.set i w).flatten.Perm (w ++ (w1 ++ rest)) := by
  have hij : i ≠ j := by intro e; subst e; simp at hne
  obtain ⟨r, a1, a2⟩ := zr_1 h
  have hj : (bs.set i [])[j]? = some w1 := by rw [List.getElem?_set_ne hij]; exact h1
  obtain ⟨r2, b1, b2⟩ := zr_1 hj
  have e1 : r.Perm (w1 ++ r2) := (by simpa using (a2 []).symm : r.Perm (bs.set i []).flatten).trans b1
  exact ⟨r2, a1.trans (e1.append_left w0), fun w => (a2 w).trans (e1.append_left w)⟩
theorem zr_3 {bs : List va_W} {i j k : Nat} {w0 w1 w2 : va_W} (h : bs[i]? = some w0) (h1 : bs[j]? = some w1) (h2 : bs[k]? = some w2) (hne : (i == j || (i == k || j == k)) = false) : ∃ rest : va_W, bs.flatten.Perm (w0 ++ (w1 ++ (w2 ++ rest))) ∧ ∀ w, (bs.set i w).flatten.Perm (w ++ (w1 ++ (w2 ++ rest))) := by
  simp only [Bool.or_eq_false_iff] at hne
  have hij : i ≠ j := by intro e; subst e; simp at hne
  have hik : i ≠ k := by intro e; subst e; simp at hne
  obtain ⟨r, a1, a2⟩ := zr_1 h
  have hj : (bs.set i [])[j]? = some w1 := by rw [List.getElem?_set_ne hij]; exact h1
  have hk : (bs.set i [])[k]? = some w2 := by rw [List.getElem?_set_ne hik]; exact h2
  obtain ⟨r2, b1, b2⟩ := zr_2 hj hk hne.2.2
  have e1 : r.Perm (w1 ++ (w2 ++ r2)) := (by simpa using (a2 []).symm : r.Perm (bs.set i []).flatten).trans b1
  exact ⟨r2, a1.trans (e1.append_left w0), fun w => (a2 w).trans (e1.append_left w)⟩
/-- a call whose world is wc, beside a rest -/
theorem zj_callR {y : MethodName} {cy : ByteArray} {maxL fr lc mc ms index n : Nat} {rt : Option FieldType} {b : Nat} {As : List Value} {wc rest : va_W} {Qu : Option Value → va_W → Prop} (C : zC p s m args c cc own nL G A) (hV : zV own index y cy maxL rt n) (hM : zX l G y cy maxL rt fr lc mc ms (.ref b :: As) wc Qu) (hd : decode cc pc = .ok (.invokevirtual index, 3)) (hperm : bs.flatten.Perm (wc ++ rest)) {st0 : List Value} (hst : st0 = As.reverse ++ .ref b :: st) (hR : (Nat.ble (fr + 1) R.frames && Nat.ble (8 + (maxL + 11) + lc) R.locals) = true) (hn : As.length = n) (hcap : Nat.ble (st.map fun v => v.category).sum 8 = true) (hcs : (Nat.ble (cells + mc) R.cells && Nat.ble (slots + ms) R.slots) = true) (hnl : lo.length = nL) {ci : Nat} {fs : List Value} {q : vw_C} (hrec : ∃ k0 : Nat, wc[k0]? = some (b, .inr (ci, fs))) (hci : vwCl[ci]? = some q) (hqc : q.1 = y.cls)
    (k : ∀ v w1, Qu v w1 → Zj p l e R s m args below meth c G A (cells + mc) (slots + ms) Q [w1 ++ rest] lo (pc + 3) (v.toList ++ st)) : Zj p l e R s m args below meth c G A cells slots Q bs lo pc st0 := by
  obtain ⟨k0, hk0⟩ := hrec
  refine zj_eqp (bs' := [wc, rest]) (by simpa using hperm) ?_
  refine zj_callV0 (wc := wc) C hV hM hd (zn_and hR) hn (Nat.le_of_ble_eq_true hcap) (zn_and hcs) hnl [0] [1] rfl (by simp [zpk]) hk0 hci hqc (fun v w1 hq => ?_) hst
  refine zj_blk (bs' := [w1 ++ rest]) (by simp [zpk]) ?_
  exact k v w1 hq
theorem zj_callP1 {y : MethodName} {cy : ByteArray} {maxL fr lc index n : Nat} {rt : Option FieldType} {b : Nat} {As : List Value} {w : Value} {w0 : va_W} (C : zC p s m args c cc own nL G A) (hV : zV own index y cy maxL rt n) (hM : zX l G y cy maxL rt fr lc 0 0 (.ref b :: As) w0 (zF (some w) w0)) (hd : decode cc pc = .ok (.invokevirtual index, 3)) (i : Nat) (hbi : bs[i]? = some w0) {st0 : List Value} (hst : st0 = As.reverse ++ .ref b :: st) (hR : (Nat.ble (fr + 1) R.frames && Nat.ble (8 + (maxL + 11) + lc) R.locals) = true) (hn : As.length = n) (hcap : Nat.ble (st.map fun v => v.category).sum 8 = true) (hcs : (Nat.ble cells R.cells && Nat.ble slots R.slots) = true) (hnl : lo.length = nL) {ci : Nat} {fs : List Value} {q : vw_C} (hrec : ∃ k0 : Nat, w0[k0]? = some (b, .inr (ci, fs))) (hci : vwCl[ci]? = some q) (hqc : q.1 = y.cls)
    (k : Zj p l e R s m args below meth c G A cells slots Q bs lo (pc + 3) (w :: st)) : Zj p l e R s m args below meth c G A cells slots Q bs lo pc st0 := by
  obtain ⟨r, h1, h2⟩ := zr_1 hbi
  refine zj_callR (rest := r) C hV hM hd (by simpa [List.append_assoc] using h1) hst hR hn hcap hcs hnl hrec hci hqc (fun v w1' hq => ?_)
  obtain ⟨rfl, rfl⟩ := hq
  refine zj_eqp (bs' := bs) ?_ k
  rw [List.flatten_singleton]
  exact (by simpa [List.append_assoc] using h1.symm)
theorem zj_callP2 {y : MethodName} {cy : ByteArray} {maxL fr lc index n : Nat} {rt : Option FieldType} {b : Nat} {As : List Value} {w : Value} {w0 w1 : va_W} (C : zC p s m args c cc own nL G A) (hV : zV own index y cy maxL rt n) (hM : zX l G y cy maxL rt fr lc 0 0 (.ref b :: As) (w0 ++ w1) (zF (some w) (w0 ++ w1))) (hd : decode cc pc = .ok (.invokevirtual index, 3)) (i : Nat) (j : Nat) (hbi : bs[i]? = some w0) (hbj : bs[j]? = some w1) (hne : (i == j) = false) {st0 : List Value} (hst : st0 = As.reverse ++ .ref b :: st) (hR : (Nat.ble (fr + 1) R.frames && Nat.ble (8 + (maxL + 11) + lc) R.locals) = true) (hn : As.length = n) (hcap : Nat.ble (st.map fun v => v.category).sum 8 = true) (hcs : (Nat.ble cells R.cells && Nat.ble slots R.slots) = true) (hnl : lo.length = nL) {ci : Nat} {fs : List Value} {q : vw_C} (hrec : ∃ k0 : Nat, (w0 ++ w1)[k0]? = some (b, .inr (ci, fs))) (hci : vwCl[ci]? = some q) (hqc : q.1 = y.cls)
    (k : Zj p l e R s m args below meth c G A cells slots Q bs lo (pc + 3) (w :: st)) : Zj p l e R s m args below meth c G A cells slots Q bs lo pc st0 := by
  obtain ⟨r, h1, h2⟩ := zr_2 hbi hbj hne
  refine zj_callR (rest := r) C hV hM hd (by simpa [List.append_assoc] using h1) hst hR hn hcap hcs hnl hrec hci hqc (fun v w1' hq => ?_)
  obtain ⟨rfl, rfl⟩ := hq
  refine zj_eqp (bs' := bs) ?_ k
  rw [List.flatten_singleton]
  exact (by simpa [List.append_assoc] using h1.symm)
theorem zj_callP3 {y : MethodName} {cy : ByteArray} {maxL fr lc index n : Nat} {rt : Option FieldType} {b : Nat} {As : List Value} {w : Value} {w0 w1 w2 : va_W} (C : zC p s m args c cc own nL G A) (hV : zV own index y cy maxL rt n) (hM : zX l G y cy maxL rt fr lc 0 0 (.ref b :: As) (w0 ++ (w1 ++ w2)) (zF (some w) (w0 ++ (w1 ++ w2)))) (hd : decode cc pc = .ok (.invokevirtual index, 3)) (i : Nat) (j : Nat) (k : Nat) (hbi : bs[i]? = some w0) (hbj : bs[j]? = some w1) (hbk : bs[k]? = some w2) (hne : (i == j || (i == k || j == k)) = false) {st0 : List Value} (hst : st0 = As.reverse ++ .ref b :: st) (hR : (Nat.ble (fr + 1) R.frames && Nat.ble (8 + (maxL + 11) + lc) R.locals) = true) (hn : As.length = n) (hcap : Nat.ble (st.map fun v => v.category).sum 8 = true) (hcs : (Nat.ble cells R.cells && Nat.ble slots R.slots) = true) (hnl : lo.length = nL) {ci : Nat} {fs : List Value} {q : vw_C} (hrec : ∃ k0 : Nat, (w0 ++ (w1 ++ w2))[k0]? = some (b, .inr (ci, fs))) (hci : vwCl[ci]? = some q) (hqc : q.1 = y.cls)
    (k : Zj p l e R s m args below meth c G A cells slots Q bs lo (pc + 3) (w :: st)) : Zj p l e R s m args below meth c G A cells slots Q bs lo pc st0 := by
  obtain ⟨r, h1, h2⟩ := zr_3 hbi hbj hbk hne
  refine zj_callR (rest := r) C hV hM hd (by simpa [List.append_assoc] using h1) hst hR hn hcap hcs hnl hrec hci hqc (fun v w1' hq => ?_)
  obtain ⟨rfl, rfl⟩ := hq
  refine zj_eqp (bs' := bs) ?_ k
  rw [List.flatten_singleton]
  exact (by simpa [List.append_assoc] using h1.symm)
theorem zj_callP1n {y : MethodName} {cy : ByteArray} {maxL fr lc index n : Nat} {rt : Option FieldType} {b : Nat} {As : List Value} {w0 : va_W} (C : zC p s m args c cc own nL G A) (hV : zV own index y cy maxL rt n) (hM : zX l G y cy maxL rt fr lc 0 0 (.ref b :: As) w0 (zF none w0)) (hd : decode cc pc = .ok (.invokevirtual index, 3)) (i : Nat) (hbi : bs[i]? = some w0) {st0 : List Value} (hst : st0 = As.reverse ++ .ref b :: st) (hR : (Nat.ble (fr + 1) R.frames && Nat.ble (8 + (maxL + 11) + lc) R.locals) = true) (hn : As.length = n) (hcap : Nat.ble (st.map fun v => v.category).sum 8 = true) (hcs : (Nat.ble cells R.cells && Nat.ble slots R.slots) = true) (hnl : lo.length = nL) {ci : Nat} {fs : List Value} {q : vw_C} (hrec : ∃ k0 : Nat, w0[k0]? = some (b, .inr (ci, fs))) (hci : vwCl[ci]? = some q) (hqc : q.1 = y.cls)
    (k : Zj p l e R s m args below meth c G A cells slots Q bs lo (pc + 3) st) : Zj p l e R s m args below meth c G A cells slots Q bs lo pc st0 := by
  obtain ⟨r, h1, h2⟩ := zr_1 hbi
  refine zj_callR (rest := r) C hV hM hd (by simpa [List.append_assoc] using h1) hst hR hn hcap hcs hnl hrec hci hqc (fun v w1' hq => ?_)
  obtain ⟨rfl, rfl⟩ := hq
  refine zj_eqp (bs' := bs) ?_ k
  rw [List.flatten_singleton]
  exact (by simpa [List.append_assoc] using h1.symm)
theorem zj_callP2n {y : MethodName} {cy : ByteArray} {maxL fr lc index n : Nat} {rt : Option FieldType} {b : Nat} {As : List Value} {w0 w1 : va_W} (C : zC p s m args c cc own nL G A) (hV : zV own index y cy maxL rt n) (hM : zX l G y cy maxL rt fr lc 0 0 (.ref b :: As) (w0 ++ w1) (zF none (w0 ++ w1))) (hd : decode cc pc = .ok (.invokevirtual index, 3)) (i : Nat) (j : Nat) (hbi : bs[i]? = some w0) (hbj : bs[j]? = some w1) (hne : (i == j) = false) {st0 : List Value} (hst : st0 = As.reverse ++ .ref b :: st) (hR : (Nat.ble (fr + 1) R.frames && Nat.ble (8 + (maxL + 11) + lc) R.locals) = true) (hn : As.length = n) (hcap : Nat.ble (st.map fun v => v.category).sum 8 = true) (hcs : (Nat.ble cells R.cells && Nat.ble slots R.slots) = true) (hnl : lo.length = nL) {ci : Nat} {fs : List Value} {q : vw_C} (hrec : ∃ k0 : Nat, (w0 ++ w1)[k0]? = some (b, .inr (ci, fs))) (hci : vwCl[ci]? = some q) (hqc : q.1 = y.cls)
    (k : Zj p l e R s m args below meth c G A cells slots Q bs lo (pc + 3) st) : Zj p l e R s m args below meth c G A cells slots Q bs lo pc st0 := by
  obtain ⟨r, h1, h2⟩ := zr_2 hbi hbj hne
  refine zj_callR (rest := r) C hV hM hd (by simpa [List.append_assoc] using h1) hst hR hn hcap hcs hnl hrec hci hqc (fun v w1' hq => ?_)
  obtain ⟨rfl, rfl⟩ := hq
  refine zj_eqp (bs' := bs) ?_ k
  rw [List.flatten_singleton]
  exact (by simpa [List.append_assoc] using h1.symm)
theorem zj_callF1 {y : MethodName} {cy : ByteArray} {maxL fr lc index n : Nat} {rt : Option FieldType} {b : Nat} {As : List Value} {w : Value} {w0 w0' : va_W} (C : zC p s m args c cc own nL G A) (hV : zV own index y cy maxL rt n) (hM : zX l G y cy maxL rt fr lc 0 0 (.ref b :: As) w0 (zF (some w) w0')) (hd : decode cc pc = .ok (.invokevirtual index, 3)) (i : Nat) (hbi : bs[i]? = some w0) {st0 : List Value} (hst : st0 = As.reverse ++ .ref b :: st) (hR : (Nat.ble (fr + 1) R.frames && Nat.ble (8 + (maxL + 11) + lc) R.locals) = true) (hn : As.length = n) (hcap : Nat.ble (st.map fun v => v.category).sum 8 = true) (hcs : (Nat.ble cells R.cells && Nat.ble slots R.slots) = true) (hnl : lo.length = nL) {ci : Nat} {fs : List Value} {q : vw_C} (hrec : ∃ k0 : Nat, w0[k0]? = some (b, .inr (ci, fs))) (hci : vwCl[ci]? = some q) (hqc : q.1 = y.cls)
    (k : Zj p l e R s m args below meth c G A cells slots Q (bs.set i w0') lo (pc + 3) (w :: st)) : Zj p l e R s m args below meth c G A cells slots Q bs lo pc st0 := by
  obtain ⟨r, h1, h2⟩ := zr_1 hbi
  refine zj_callR (rest := r) C hV hM hd (by simpa [List.append_assoc] using h1) hst hR hn hcap hcs hnl hrec hci hqc (fun v w1' hq => ?_)
  obtain ⟨rfl, rfl⟩ := hq
  refine zj_eqp ?_ k
  rw [List.flatten_singleton]
  exact (by simpa [List.append_assoc] using (h2 _).symm)
theorem zj_callF1n {y : MethodName} {cy : ByteArray} {maxL fr lc index n : Nat} {rt : Option FieldType} {b : Nat} {As : List Value} {w0 w0' : va_W} (C : zC p s m args c cc own nL G A) (hV : zV own index y cy maxL rt n) (hM : zX l G y cy maxL rt fr lc 0 0 (.ref b :: As) w0 (zF none w0')) (hd : decode cc pc = .ok (.invokevirtual index, 3)) (i : Nat) (hbi : bs[i]? = some w0) {st0 : List Value} (hst : st0 = As.reverse ++ .ref b :: st) (hR : (Nat.ble (fr + 1) R.frames && Nat.ble (8 + (maxL + 11) + lc) R.locals) = true) (hn : As.length = n) (hcap : Nat.ble (st.map fun v => v.category).sum 8 = true) (hcs : (Nat.ble cells R.cells && Nat.ble slots R.slots) = true) (hnl : lo.length = nL) {ci : Nat} {fs : List Value} {q : vw_C} (hrec : ∃ k0 : Nat, w0[k0]? = some (b, .inr (ci, fs))) (hci : vwCl[ci]? = some q) (hqc : q.1 = y.cls)
    (k : Zj p l e R s m args below meth c G A cells slots Q (bs.set i w0') lo (pc + 3) st) : Zj p l e R s m args below meth c G A cells slots Q bs lo pc st0 := by
  obtain ⟨r, h1, h2⟩ := zr_1 hbi
  refine zj_callR (rest := r) C hV hM hd (by simpa [List.append_assoc] using h1) hst hR hn hcap hcs hnl hrec hci hqc (fun v w1' hq => ?_)
  obtain ⟨rfl, rfl⟩ := hq
  refine zj_eqp ?_ k
  rw [List.flatten_singleton]
  exact (by simpa [List.append_assoc] using (h2 _).symm)
theorem zj_callF2 {y : MethodName} {cy : ByteArray} {maxL fr lc index n : Nat} {rt : Option FieldType} {b : Nat} {As : List Value} {w : Value} {w0 w1 w0' : va_W} (C : zC p s m args c cc own nL G A) (hV : zV own index y cy maxL rt n) (hM : zX l G y cy maxL rt fr lc 0 0 (.ref b :: As) (w0 ++ w1) (zF (some w) (w0' ++ w1))) (hd : decode cc pc = .ok (.invokevirtual index, 3)) (i : Nat) (j : Nat) (hbi : bs[i]? = some w0) (hbj : bs[j]? = some w1) (hne : (i == j) = false) {st0 : List Value} (hst : st0 = As.reverse ++ .ref b :: st) (hR : (Nat.ble (fr + 1) R.frames && Nat.ble (8 + (maxL + 11) + lc) R.locals) = true) (hn : As.length = n) (hcap : Nat.ble (st.map fun v => v.category).sum 8 = true) (hcs : (Nat.ble cells R.cells && Nat.ble slots R.slots) = true) (hnl : lo.length = nL) {ci : Nat} {fs : List Value} {q : vw_C} (hrec : ∃ k0 : Nat, (w0 ++ w1)[k0]? = some (b, .inr (ci, fs))) (hci : vwCl[ci]? = some q) (hqc : q.1 = y.cls)
    (k : Zj p l e R s m args below meth c G A cells slots Q (bs.set i w0') lo (pc + 3) (w :: st)) : Zj p l e R s m args below meth c G A cells slots Q bs lo pc st0 := by
  obtain ⟨r, h1, h2⟩ := zr_2 hbi hbj hne
  refine zj_callR (rest := r) C hV hM hd (by simpa [List.append_assoc] using h1) hst hR hn hcap hcs hnl hrec hci hqc (fun v w1' hq => ?_)
  obtain ⟨rfl, rfl⟩ := hq
  refine zj_eqp ?_ k
  rw [List.flatten_singleton]
  exact (by simpa [List.append_assoc] using (h2 _).symm)
theorem zj_callF2n {y : MethodName} {cy : ByteArray} {maxL fr lc index n : Nat} {rt : Option FieldType} {b : Nat} {As : List Value} {w0 w1 w0' : va_W} (C : zC p s m args c cc own nL G A) (hV : zV own index y cy maxL rt n) (hM : zX l G y cy maxL rt fr lc 0 0 (.ref b :: As) (w0 ++ w1) (zF none (w0' ++ w1))) (hd : decode cc pc = .ok (.invokevirtual index, 3)) (i : Nat) (j : Nat) (hbi : bs[i]? = some w0) (hbj : bs[j]? = some w1) (hne : (i == j) = false) {st0 : List Value} (hst : st0 = As.reverse ++ .ref b :: st) (hR : (Nat.ble (fr + 1) R.frames && Nat.ble (8 + (maxL + 11) + lc) R.locals) = true) (hn : As.length = n) (hcap : Nat.ble (st.map fun v => v.category).sum 8 = true) (hcs : (Nat.ble cells R.cells && Nat.ble slots R.slots) = true) (hnl : lo.length = nL) {ci : Nat} {fs : List Value} {q : vw_C} (hrec : ∃ k0 : Nat, (w0 ++ w1)[k0]? = some (b, .inr (ci, fs))) (hci : vwCl[ci]? = some q) (hqc : q.1 = y.cls)
    (k : Zj p l e R s m args below meth c G A cells slots Q (bs.set i w0') lo (pc + 3) st) : Zj p l e R s m args below meth c G A cells slots Q bs lo pc st0 := by
  obtain ⟨r, h1, h2⟩ := zr_2 hbi hbj hne
  refine zj_callR (rest := r) C hV hM hd (by simpa [List.append_assoc] using h1) hst hR hn hcap hcs hnl hrec hci hqc (fun v w1' hq => ?_)
  obtain ⟨rfl, rfl⟩ := hq
  refine zj_eqp ?_ k
  rw [List.flatten_singleton]
  exact (by simpa [List.append_assoc] using (h2 _).symm)
theorem zj_callF3n {y : MethodName} {cy : ByteArray} {maxL fr lc index n : Nat} {rt : Option FieldType} {b : Nat} {As : List Value} {w0 w1 w2 w0' : va_W} (C : zC p s m args c cc own nL G A) (hV : zV own index y cy maxL rt n) (hM : zX l G y cy maxL rt fr lc 0 0 (.ref b :: As) (w0 ++ (w1 ++ w2)) (zF none (w0' ++ (w1 ++ w2)))) (hd : decode cc pc = .ok (.invokevirtual index, 3)) (i : Nat) (j : Nat) (k : Nat) (hbi : bs[i]? = some w0) (hbj : bs[j]? = some w1) (hbk : bs[k]? = some w2) (hne : (i == j || (i == k || j == k)) = false) {st0 : List Value} (hst : st0 = As.reverse ++ .ref b :: st) (hR : (Nat.ble (fr + 1) R.frames && Nat.ble (8 + (maxL + 11) + lc) R.locals) = true) (hn : As.length = n) (hcap : Nat.ble (st.map fun v => v.category).sum 8 = true) (hcs : (Nat.ble cells R.cells && Nat.ble slots R.slots) = true) (hnl : lo.length = nL) {ci : Nat} {fs : List Value} {q : vw_C} (hrec : ∃ k0 : Nat, (w0 ++ (w1 ++ w2))[k0]? = some (b, .inr (ci, fs))) (hci : vwCl[ci]? = some q) (hqc : q.1 = y.cls)
    (k : Zj p l e R s m args below meth c G A cells slots Q (bs.set i w0') lo (pc + 3) st) : Zj p l e R s m args below meth c G A cells slots Q bs lo pc st0 := by
  obtain ⟨r, h1, h2⟩ := zr_3 hbi hbj hbk hne
  refine zj_callR (rest := r) C hV hM hd (by simpa [List.append_assoc] using h1) hst hR hn hcap hcs hnl hrec hci hqc (fun v w1' hq => ?_)
  obtain ⟨rfl, rfl⟩ := hq
  refine zj_eqp ?_ k
  rw [List.flatten_singleton]
  exact (by simpa [List.append_assoc] using (h2 _).symm)
/-- a call over several blocks that changes nothing -/
theorem zj_callPA {y : MethodName} {cy : ByteArray} {maxL fr lc index n : Nat} {rt : Option FieldType} {b : Nat} {As : List Value} {w : Value} {wc : va_W} (C : zC p s m args c cc own nL G A) (hV : zV own index y cy maxL rt n) (hM : zX l G y cy maxL rt fr lc 0 0 (.ref b :: As) wc (zF (some w) wc)) (hd : decode cc pc = .ok (.invokevirtual index, 3)) (is jr : List Nat) (hp : (is ++ jr).isPerm (List.range bs.length) = true) (hC : (zpk bs is).flatten = wc) {st0 : List Value} (hst : st0 = As.reverse ++ .ref b :: st) (hR : (Nat.ble (fr + 1) R.frames && Nat.ble (8 + (maxL + 11) + lc) R.locals) = true) (hn : As.length = n) (hcap : Nat.ble (st.map fun v => v.category).sum 8 = true) (hcs : (Nat.ble cells R.cells && Nat.ble slots R.slots) = true) (hnl : lo.length = nL) {ci : Nat} {fs : List Value} {q : vw_C} (hrec : ∃ k0 : Nat, wc[k0]? = some (b, .inr (ci, fs))) (hci : vwCl[ci]? = some q) (hqc : q.1 = y.cls)
    (k : Zj p l e R s m args below meth c G A cells slots Q bs lo (pc + 3) (w :: st)) : Zj p l e R s m args below meth c G A cells slots Q bs lo pc st0 := by
  have hperm := zp_perm hp
  rw [hC] at hperm
  refine zj_callR (rest := (zpk bs jr).flatten) C hV hM hd hperm hst hR hn hcap hcs hnl hrec hci hqc (fun v w1' hq => ?_)
  obtain ⟨rfl, rfl⟩ := hq
  refine zj_eqp (bs' := bs) ?_ k
  rw [List.flatten_singleton]
  exact hperm.symm
/-- a call over several blocks, whatever comes of it: its world first, then the rest -/
theorem zj_callA {y : MethodName} {cy : ByteArray} {maxL fr lc index n mc ms : Nat} {rt : Option FieldType} {b : Nat} {As : List Value} {wc : va_W} {Qu : Option Value → va_W → Prop} (C : zC p s m args c cc own nL G A) (hV : zV own index y cy maxL rt n) (hM : zX l G y cy maxL rt fr lc mc ms (.ref b :: As) wc Qu) (hd : decode cc pc = .ok (.invokevirtual index, 3)) (is jr : List Nat) (hp : (is ++ jr).isPerm (List.range bs.length) = true) (hC : (zpk bs is).flatten = wc) {st0 : List Value} (hst : st0 = As.reverse ++ .ref b :: st) (hR : (Nat.ble (fr + 1) R.frames && Nat.ble (8 + (maxL + 11) + lc) R.locals) = true) (hn : As.length = n) (hcap : Nat.ble (st.map fun v => v.category).sum 8 = true) (hcs : (Nat.ble (cells + mc) R.cells && Nat.ble (slots + ms) R.slots) = true) (hnl : lo.length = nL) {ci : Nat} {fs : List Value} {q : vw_C} (hrec : ∃ k0 : Nat, wc[k0]? = some (b, .inr (ci, fs))) (hci : vwCl[ci]? = some q) (hqc : q.1 = y.cls)
    (k : ∀ v w1, Qu v w1 → Zj p l e R s m args below meth c G A (cells + mc) (slots + ms) Q (w1 :: zpk bs jr) lo (pc + 3) (v.toList ++ st)) : Zj p l e R s m args below meth c G A cells slots Q bs lo pc st0 := by
  have hperm := zp_perm hp
  rw [hC] at hperm
  refine zj_callR (rest := (zpk bs jr).flatten) C hV hM hd hperm hst hR hn hcap hcs hnl hrec hci hqc (fun v w1' hq => ?_)
  refine zj_eqp (bs' := w1' :: zpk bs jr) ?_ (k v w1' hq)
  rw [List.flatten_singleton, List.flatten_cons]
theorem zj_callSF {y : MethodName} {cy : ByteArray} {maxL fr lc index n : Nat} {rt : Option FieldType} {As : List Value} {w : Value} (C : zC p s m args c cc own nL G A) (hV : zS own index y cy maxL rt n) (hM : zX l G y cy maxL rt fr lc 0 0 As [] (zF (some w) [])) (hd : decode cc pc = .ok (.invokestatic index, 3)) {st0 : List Value} (hst : st0 = As.reverse ++ st) (hR : (Nat.ble (fr + 1) R.frames && Nat.ble (8 + (maxL + 11) + lc) R.locals) = true) (hn : As.length = n) (hcap : Nat.ble (st.map fun v => v.category).sum 8 = true) (hcs : (Nat.ble cells R.cells && Nat.ble slots R.slots) = true) (hnl : lo.length = nL)
    (k : Zj p l e R s m args below meth c G A cells slots Q bs lo (pc + 3) (w :: st)) : Zj p l e R s m args below meth c G A cells slots Q bs lo pc st0 := by
  refine zj_callS C hV hM hd (zn_and hR) hn (Nat.le_of_ble_eq_true hcap) (zn_and hcs) hnl (fun v w1' hq => ?_) hst
  obtain ⟨rfl, rfl⟩ := hq
  exact k
/-- a place in a row, of a number that was tested -/
theorem zix {x : Int32} {n : Nat} (h0 : ¬ x < 0) (h1 : ¬ nI n ≤ x) (hn : n < 2 ^ 31) : x = nI x.toNatClampNeg ∧ x.toNatClampNeg < n := by
  rcases pk_ix x hn with h | h | ⟨j, hj, rfl⟩
  · exact absurd h h0
  · exact absurd h h1
  · rw [nI_clamp (by omega)]
    exact ⟨rfl, hj⟩
end ZK
