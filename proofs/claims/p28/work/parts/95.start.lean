/-! THE START -/
theorem zK_of {args : Array Value} {s : State} (hts0 : ∀ w ∈ lw_tbl, w.before args s = true) : ∃ G : GG, zK G s := by
  have hts : ∀ w ∈ aw, w.before args s = true := fun w h => hts0 w (aw_tbl h)
  obtain ⟨c0, i0, k0⟩ := u_known (n := 2) hts iw_X0 (hts _ aq_84)
  obtain ⟨c1, i1, k1⟩ := u_known (n := 3) hts iw_X1 (hts _ aq_44)
  obtain ⟨c2, i2, k2⟩ := u_known (n := 3) hts iw_X2 (hts _ aq_50)
  obtain ⟨c3, i3, k3⟩ := u_known (n := 9) hts iw_X3 (hts _ aq_100)
  obtain ⟨c4, i4, k4⟩ := u_known (n := 6) hts iw_X4 (hts _ aq_135)
  obtain ⟨c5, i5, k5⟩ := u_known (n := 1) hts iw_X5 (hts _ aq_141)
  obtain ⟨c6, i6, k6⟩ := u_known (n := 9) hts iw_X6 (hts _ aq_36)
  obtain ⟨d0, kd0, e0, f1, f2, f3⟩ := Cond.arrayClass_spec (hts _ aq_68)
  obtain ⟨d1, kd1, e1, g1, g2, g3⟩ := Cond.arrayClass_spec (hts _ aq_133)
  have ho : (Cond.arrayOver (.object "DistrictTotals$Plan")).before args s = true := hts0 _ (List.mem_of_getElem? (i := 90) (by decide +kernel))
  obtain ⟨e2, d2, kd2, o1, o2, o3, o4, o5⟩ := Cond.arrayOver_spec ho
  refine ⟨((fun j => [c0, c1, c2, c3, c4, c5, c6].getD j c0, fun j => [i0, i1, i2, i3, i4, i5, i6].getD j i0), fun j => [d0, d1, d2].getD j d0), ⟨⟨fun j x hx => ?_, fun j x hx => ?_⟩, va_AO.of ho⟩⟩
  · have hj : j < 7 := (List.getElem?_eq_some_iff.mp hx).1
    rcases (show j = 0 ∨ j = 1 ∨ j = 2 ∨ j = 3 ∨ j = 4 ∨ j = 5 ∨ j = 6 by omega) with rfl | rfl | rfl | rfl | rfl | rfl | rfl <;> cases hx
    · exact k0
    · exact k1
    · exact k2
    · exact k3
    · exact k4
    · exact k5
    · exact k6
  · have hj : j < 3 := (List.getElem?_eq_some_iff.mp hx).1
    rcases (show j = 0 ∨ j = 1 ∨ j = 2 by omega) with rfl | rfl | rfl <;> cases hx
    · exact ⟨fun n z => ⟨(fun k h => by cases h), kd0, f2, e0, f3⟩, f1⟩
    · exact ⟨fun n z => ⟨(fun k h => by cases h), kd1, g2, e1, g3⟩, g1⟩
    · exact ⟨fun n z => ⟨(fun k h => by cases h), kd2, o3, e2, o4⟩, kd2, e2, o3, o4, o1, o5⟩
theorem OBX_0 {G : GG} {ad qq : Nat → Nat → Nat} : OBX G (ad 0 0) (rk0 14) 0 HT (cls G ad qq P00 P00 P00 false (fun _ => P00) 0 (fun _ => 0) 0 T00 W00 W00 true) := by
  have kl : kL (rk0 14) = 0 := rfl
  have ka : kA (rk0 14) = 0 := rfl
  have tb : TBT W00 := ⟨⟨fun d x y _ _ _ => Nat.zero_le _, fun _ _ => Nat.zero_lt_succ _, fun _ _ => Nat.zero_lt_succ _, fun _ _ => Nat.zero_le _, fun _ _ => Nat.zero_le _⟩, Nat.zero_le _⟩
  have hv : Vg (rk0 14) := by
    refine ⟨by rw [kl]; decide, by rw [ka]; decide, fun x hx => ?_, fun i hi => ?_, fun i hi => ?_⟩
    · unfold rk0; split <;> decide
    · rw [kl] at hi; exact absurd hi (Nat.not_lt_zero _)
    · rw [ka] at hi; exact absurd hi (Nat.not_lt_zero _)
  refine ⟨_, ad, qq, P00, P00, P00, false, fun _ => P00, fun _ => 0, 0, T00, W00, W00, true, rfl, rfl, ⟨fun x hx => rfl, fun i c hi _ => ?_, rfl, fun i c hi _ => ?_, rfl⟩, hv, by decide, tb, tb, rfl, WOK_of hv W00, trivial⟩
  · rw [kl] at hi; exact absurd hi (Nat.not_lt_zero _)
  · rw [ka] at hi; exact absurd hi (Nat.not_lt_zero _)
theorem zj_swap {p : Program} {l : Launch} {e : Env} {R : Room} {s : State} {m : MethodId} {args : Array Value} {below : List Frame} {meth : Method} {c : Code} {G : GG} {A : Nat → Prop} {cells slots : Nat} {Q : State → Prop} {lo : List (Option Value)} {pc : Nat} {st : List Value} {w1 w2 : va_W} (k : Zj p l e R s m args below meth c G A cells slots Q [w1, w2] lo pc st) : Zj p l e R s m args below meth c G A cells slots Q [w2, w1] lo pc st := zj_eqp (by simpa using List.perm_append_comm) k
