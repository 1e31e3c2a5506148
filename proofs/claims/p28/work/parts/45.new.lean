/-! NEW THINGS -/
section ZN
variable {p : Program} {l : Launch} {e : Env} {R : Room} {s : State} {m : MethodId} {args : Array Value} {below : List Frame} {meth : Method} {c : Code} {G : GG} {A : Nat → Prop} {cells slots : Nat} {Q : State → Prop} {bs : List va_W} {lo : List (Option Value)} {pc : Nat} {st : List Value} {cc : ByteArray} {own : String} {nL : Nat}
theorem zj_objInit {idx a : Nat} (C : zC p s m args c cc own nL G A) (h1 : Cond.methodLink own idx Lib.objectInit ∈ aw) (h2 : Cond.instanceMethod Lib.objectInit ∈ aw) (h3 : Cond.code Lib.objectInit ⟨#[0xb1]⟩ 1 none ∈ aw) (hd : decode cc pc = .ok (.invokespecial idx, 3)) (hR : (Nat.ble 1 R.frames && Nat.ble 20 R.locals) = true) (hcap : Nat.ble (st.map fun v => v.category).sum 8 = true) (hnl : lo.length = nL) (k : Zj p l e R s m args below meth c G A cells slots Q bs lo (pc + 3) st) : Zj p l e R s m args below meth c G A cells slots Q bs lo pc (.ref a :: st) := fun H locs ls hP hD hS hl => W.objInit C.1 C.2.1 C.2.2.2.1 (C.2.2.2.2.1 _ h1) (C.2.2.2.2.1 _ h2) (C.2.2.2.2.1 _ h3) rfl (by show ls.size = _; rw [hl.1, hnl]; exact C.2.2.1.symm) rfl hd (zn_and hR).1 (by have h8 := Nat.le_of_ble_eq_true hcap; have h9 := (zn_and hR).2; show 2 * 0 + _ + 12 ≤ _; omega) (k H locs ls hP hD hS hl)
theorem zj_new {C0 : String} {T : u_T} {N ci index : Nat} {fs : List Value} (C : zC p s m args c cc own nL G A) (hin : ∀ w ∈ u_ws C0 T N, w ∈ aw) (ty : Nat → FieldType) (hty : ∀ k, k < N → parseFieldDescriptor (T k).2.2.1 = some (ty k)) (hcl : Cond.classLink own index C0 ∈ aw) (hinst : Cond.instantiable C0 N ∈ aw) (hini : Cond.initialized C0 ∈ aw) (hc : vwCl[ci]? = some (C0, T, N)) (hfs : ∀ j, j < N → defaultValue (ty j) = vp_V fs j) (hcs : (Nat.ble (cells + 1) R.cells && Nat.ble (slots + N) R.slots) = true) (hd : decode cc pc = .ok (.new index, 3)) (k : ∀ q : Nat, Zj p l e R s m args below meth c G A (cells + 1) (slots + N) Q (bs ++ [[(q, .inr (ci, fs))]]) lo (pc + 3) (.ref q :: st)) : Zj p l e R s m args below meth c G A cells slots Q bs lo pc st := by
  intro H locs ls hP hD hS hl
  refine va_new C.1 C.2.1 C.2.2.2.2.1 hin ty hty C.2.2.2.1 (C.2.2.2.2.1 _ hcl) (C.2.2.2.2.1 _ hinst) (C.2.2.2.2.1 _ hini) C.2.2.2.2.2.1.1 hP hD hS C.2.2.2.2.2.2 hc hfs (zn_and hcs).1 (zn_and hcs).2 hd (fun q H1 hP1 hD1 hS1 => ?_)
  refine k q H1 locs ls ?_ ?_ hS1 hl
  · rw [List.flatten_append]; exact hP1
  · rw [List.flatten_append]; exact hD1
theorem zj_newi {n : Int32} {N' : Nat} (C : zC p s m args c cc own nL G A) (harr : Cond.arrayClass .int ∈ aw) (hn : n = nI N') (h31 : N' < 1000) (hcs : (Nat.ble (cells + 1) R.cells && Nat.ble (slots + N') R.slots) = true) (hd : decode cc pc = .ok (.newarray .int, 2)) (k : ∀ q : Nat, Zj p l e R s m args below meth c G A (cells + 1) (slots + N') Q (bs ++ [[(q, .inl (G.2 0, N', .inl (fun _ => 0)))]]) lo (pc + 2) (.ref q :: st)) : Zj p l e R s m args below meth c G A cells slots Q bs lo pc (.int n :: st) := by
  intro H locs ls hP hD hS hl
  subst hn
  refine va_newa (atype := .int) C.1 C.2.1 (C.2.2.2.2.1 _ harr) (ty := .int) rfl C.2.2.2.2.2.1.1 hP hD hS C.2.2.2.2.2.2 (N' := N') (a0 := (N', .inl (fun _ => 0))) (fun _ => rfl) (nI_pos (by omega)) (nI_clamp (by omega)) (by show N' * 4 ≤ _; omega) (zn_and hcs).1 (zn_and hcs).2 hd (fun q cA H1 hK1 hP1 hD1 hS1 => ?_)
  have e1 : s.vm.findClass ("[" ++ (FieldType.int).toString) = some cA := (hK1.2 3 (cA, .int) rfl).2
  have e2 : s.vm.findClass ("[" ++ (FieldType.int).toString) = some (G.2 0) := (C.2.2.2.2.2.1.1.2 0 (G.2 0, .int) rfl).2
  have e3 : cA = G.2 0 := Option.some.inj (e1.symm.trans e2)
  subst e3
  refine k q H1 locs ls ?_ ?_ hS1 hl
  · rw [List.flatten_append]; exact hP1
  · rw [List.flatten_append]; exact hD1
theorem zj_newc {n : Int32} {N' : Nat} (C : zC p s m args c cc own nL G A) (harr : Cond.arrayClass .char ∈ aw) (hn : n = nI N') (h31 : N' < 1000) (hcs : (Nat.ble (cells + 1) R.cells && Nat.ble (slots + N') R.slots) = true) (hd : decode cc pc = .ok (.newarray .char, 2)) (k : ∀ q : Nat, Zj p l e R s m args below meth c G A (cells + 1) (slots + N') Q (bs ++ [[(q, .inl (G.2 1, N', .inl (fun _ => 0)))]]) lo (pc + 2) (.ref q :: st)) : Zj p l e R s m args below meth c G A cells slots Q bs lo pc (.int n :: st) := by
  intro H locs ls hP hD hS hl
  subst hn
  refine va_newa (atype := .char) C.1 C.2.1 (C.2.2.2.2.1 _ harr) (ty := .char) rfl C.2.2.2.2.2.1.1 hP hD hS C.2.2.2.2.2.2 (N' := N') (a0 := (N', .inl (fun _ => 0))) (fun _ => rfl) (nI_pos (by omega)) (nI_clamp (by omega)) (by show N' * 2 ≤ _; omega) (zn_and hcs).1 (zn_and hcs).2 hd (fun q cA H1 hK1 hP1 hD1 hS1 => ?_)
  have e1 : s.vm.findClass ("[" ++ (FieldType.char).toString) = some cA := (hK1.2 3 (cA, .char) rfl).2
  have e2 : s.vm.findClass ("[" ++ (FieldType.char).toString) = some (G.2 1) := (C.2.2.2.2.2.1.1.2 1 (G.2 1, .char) rfl).2
  have e3 : cA = G.2 1 := Option.some.inj (e1.symm.trans e2)
  subst e3
  refine k q H1 locs ls ?_ ?_ hS1 hl
  · rw [List.flatten_append]; exact hP1
  · rw [List.flatten_append]; exact hD1
theorem zj_newq {n : Int32} {N' index : Nat} (C : zC p s m args c cc own nL G A) (hcl : Cond.classLink own index "DistrictTotals$Plan" ∈ aw) (hn : n = nI N') (h31 : N' < 1000) (hcs : (Nat.ble (cells + 1) R.cells && Nat.ble (slots + N') R.slots) = true) (hd : decode cc pc = .ok (.anewarray index, 3)) (k : ∀ q : Nat, Zj p l e R s m args below meth c G A (cells + 1) (slots + N') Q (bs ++ [[(q, .inl (G.2 2, N', .inr (.inr (.inr (.inr (fun _ => none))))))]]) lo (pc + 3) (.ref q :: st)) : Zj p l e R s m args below meth c G A cells slots Q bs lo pc (.int n :: st) := by
  intro H locs ls hP hD hS hl
  subst hn
  refine va_newq C.1 C.2.1 C.2.2.2.1 (C.2.2.2.2.1 _ hcl) C.2.2.2.2.2.1.2 C.2.2.2.2.2.1.1 hP hD hS C.2.2.2.2.2.2 (N' := N') (nI_pos (by omega)) (nI_clamp (by omega)) (by omega) (zn_and hcs).1 (zn_and hcs).2 hd (fun q cA H1 hK1 hP1 hD1 hS1 => ?_)
  obtain ⟨-, -, -, -, -, e1⟩ := (hK1.2 3 (cA, .object "DistrictTotals$Plan") rfl).2
  obtain ⟨-, -, -, -, -, e2⟩ := (C.2.2.2.2.2.1.1.2 2 (G.2 2, .object "DistrictTotals$Plan") rfl).2
  have e3 : cA = G.2 2 := Option.some.inj (e1.symm.trans e2)
  subst e3
  refine k q H1 locs ls ?_ ?_ hS1 hl
  · rw [List.flatten_append]; exact hP1
  · rw [List.flatten_append]; exact hD1
end ZN
theorem qi_X0 : Cond.initialized "DistrictTotals$History" ∈ aw := aw_at (i := 30) (by decide +kernel) (by decide +kernel)
theorem qi_X1 : Cond.initialized "DistrictTotals$Plan" ∈ aw := aw_at (i := 27) (by decide +kernel) (by decide +kernel)
theorem qi_X2 : Cond.initialized "DistrictTotals$Table" ∈ aw := aw_at (i := 28) (by decide +kernel) (by decide +kernel)
theorem qi_X3 : Cond.initialized "DistrictTotals$Text" ∈ aw := aw_at (i := 31) (by decide +kernel) (by decide +kernel)
theorem qi_X4 : Cond.initialized "DistrictTotals$Totals" ∈ aw := aw_at (i := 32) (by decide +kernel) (by decide +kernel)
theorem qi_X5 : Cond.initialized "DistrictTotals$Ways" ∈ aw := aw_at (i := 33) (by decide +kernel) (by decide +kernel)
theorem qi_X6 : Cond.initialized "DistrictTotals" ∈ aw := aw_at (i := 26) (by decide +kernel) (by decide +kernel)
