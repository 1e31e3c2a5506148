section ZM
variable {p : Program} {l : Launch} {e : Env} {R : Room} {s : State} {m : MethodId} {args : Array Value} {below : List Frame} {meth : Method} {c : Code} {G : GG} {A : Nat → Prop} {cells slots : Nat} {Q : State → Prop} {bs : List va_W} {lo : List (Option Value)} {pc : Nat} {st : List Value} {cc : ByteArray} {own : String} {nL : Nat}
theorem zm_if_eq_1 {x : Int32} (C : zC p s m args c cc own nL G A) (hd : decode cc pc = .ok (.ifCond .eq 7, 3)) (hd1 : decode cc (pc + 3) = .ok (.iconst 0, 1)) (hd2 : decode cc (pc + 4) = .ok (.goto 4, 3)) (hd3 : decode cc (pc + 7) = .ok (.iconst 1, 1)) (k : Zj p l e R s m args below meth c G A cells slots Q bs lo (pc + 8) (.int (bI (decide (x = 0))) :: st)) : Zj p l e R s m args below meth c G A cells slots Q bs lo pc (.int x :: st) := by
  refine zj_if_eq (pc + 7) C hd (by omega) (fun h => ?_) (fun h => ?_)
  · refine zj_iconst (v := 1) C hd3 (by decide) ?_
    have e0 : (bI (decide (x = 0))) = 1 := by simp [bI, h]
    rw [e0] at k
    exact k
  · refine zj_iconst (v := 0) C hd1 (by decide) ?_
    refine zj_goto (tgt := pc + 8) C hd2 (by omega) ?_
    have e0 : (bI (decide (x = 0))) = 0 := by simp [bI, h]
    rw [e0] at k
    exact k
theorem zm_if_eq_0 {x : Int32} (C : zC p s m args c cc own nL G A) (hd : decode cc pc = .ok (.ifCond .eq 7, 3)) (hd1 : decode cc (pc + 3) = .ok (.iconst 1, 1)) (hd2 : decode cc (pc + 4) = .ok (.goto 4, 3)) (hd3 : decode cc (pc + 7) = .ok (.iconst 0, 1)) (k : Zj p l e R s m args below meth c G A cells slots Q bs lo (pc + 8) (.int (bI (!(decide (x = 0)))) :: st)) : Zj p l e R s m args below meth c G A cells slots Q bs lo pc (.int x :: st) := by
  refine zj_if_eq (pc + 7) C hd (by omega) (fun h => ?_) (fun h => ?_)
  · refine zj_iconst (v := 0) C hd3 (by decide) ?_
    have e0 : (bI (!(decide (x = 0)))) = 0 := by simp [bI, h]
    rw [e0] at k
    exact k
  · refine zj_iconst (v := 1) C hd1 (by decide) ?_
    refine zj_goto (tgt := pc + 8) C hd2 (by omega) ?_
    have e0 : (bI (!(decide (x = 0)))) = 1 := by simp [bI, h]
    rw [e0] at k
    exact k
theorem zm_if_ne_1 {x : Int32} (C : zC p s m args c cc own nL G A) (hd : decode cc pc = .ok (.ifCond .ne 7, 3)) (hd1 : decode cc (pc + 3) = .ok (.iconst 0, 1)) (hd2 : decode cc (pc + 4) = .ok (.goto 4, 3)) (hd3 : decode cc (pc + 7) = .ok (.iconst 1, 1)) (k : Zj p l e R s m args below meth c G A cells slots Q bs lo (pc + 8) (.int (bI (decide (¬ x = 0))) :: st)) : Zj p l e R s m args below meth c G A cells slots Q bs lo pc (.int x :: st) := by
  refine zj_if_ne (pc + 7) C hd (by omega) (fun h => ?_) (fun h => ?_)
  · refine zj_iconst (v := 1) C hd3 (by decide) ?_
    have e0 : (bI (decide (¬ x = 0))) = 1 := by simp [bI, h]
    rw [e0] at k
    exact k
  · refine zj_iconst (v := 0) C hd1 (by decide) ?_
    refine zj_goto (tgt := pc + 8) C hd2 (by omega) ?_
    have e0 : (bI (decide (¬ x = 0))) = 0 := by simp [bI, h]
    rw [e0] at k
    exact k
theorem zm_if_ne_0 {x : Int32} (C : zC p s m args c cc own nL G A) (hd : decode cc pc = .ok (.ifCond .ne 7, 3)) (hd1 : decode cc (pc + 3) = .ok (.iconst 1, 1)) (hd2 : decode cc (pc + 4) = .ok (.goto 4, 3)) (hd3 : decode cc (pc + 7) = .ok (.iconst 0, 1)) (k : Zj p l e R s m args below meth c G A cells slots Q bs lo (pc + 8) (.int (bI (!(decide (¬ x = 0)))) :: st)) : Zj p l e R s m args below meth c G A cells slots Q bs lo pc (.int x :: st) := by
  refine zj_if_ne (pc + 7) C hd (by omega) (fun h => ?_) (fun h => ?_)
  · refine zj_iconst (v := 0) C hd3 (by decide) ?_
    have e0 : (bI (!(decide (¬ x = 0)))) = 0 := by simp [bI, h]
    rw [e0] at k
    exact k
  · refine zj_iconst (v := 1) C hd1 (by decide) ?_
    refine zj_goto (tgt := pc + 8) C hd2 (by omega) ?_
    have e0 : (bI (!(decide (¬ x = 0)))) = 1 := by simp [bI, h]
    rw [e0] at k
    exact k
theorem zm_if_lt_1 {x : Int32} (C : zC p s m args c cc own nL G A) (hd : decode cc pc = .ok (.ifCond .lt 7, 3)) (hd1 : decode cc (pc + 3) = .ok (.iconst 0, 1)) (hd2 : decode cc (pc + 4) = .ok (.goto 4, 3)) (hd3 : decode cc (pc + 7) = .ok (.iconst 1, 1)) (k : Zj p l e R s m args below meth c G A cells slots Q bs lo (pc + 8) (.int (bI (decide (x < 0))) :: st)) : Zj p l e R s m args below meth c G A cells slots Q bs lo pc (.int x :: st) := by
  refine zj_if_lt (pc + 7) C hd (by omega) (fun h => ?_) (fun h => ?_)
  · refine zj_iconst (v := 1) C hd3 (by decide) ?_
    have e0 : (bI (decide (x < 0))) = 1 := by simp [bI, h]
    rw [e0] at k
    exact k
  · refine zj_iconst (v := 0) C hd1 (by decide) ?_
    refine zj_goto (tgt := pc + 8) C hd2 (by omega) ?_
    have e0 : (bI (decide (x < 0))) = 0 := by simp [bI, h]
    rw [e0] at k
    exact k
theorem zm_if_lt_0 {x : Int32} (C : zC p s m args c cc own nL G A) (hd : decode cc pc = .ok (.ifCond .lt 7, 3)) (hd1 : decode cc (pc + 3) = .ok (.iconst 1, 1)) (hd2 : decode cc (pc + 4) = .ok (.goto 4, 3)) (hd3 : decode cc (pc + 7) = .ok (.iconst 0, 1)) (k : Zj p l e R s m args below meth c G A cells slots Q bs lo (pc + 8) (.int (bI (!(decide (x < 0)))) :: st)) : Zj p l e R s m args below meth c G A cells slots Q bs lo pc (.int x :: st) := by
  refine zj_if_lt (pc + 7) C hd (by omega) (fun h => ?_) (fun h => ?_)
  · refine zj_iconst (v := 0) C hd3 (by decide) ?_
    have e0 : (bI (!(decide (x < 0)))) = 0 := by simp [bI, h]
    rw [e0] at k
    exact k
  · refine zj_iconst (v := 1) C hd1 (by decide) ?_
    refine zj_goto (tgt := pc + 8) C hd2 (by omega) ?_
    have e0 : (bI (!(decide (x < 0)))) = 1 := by simp [bI, h]
    rw [e0] at k
    exact k
theorem zm_if_le_1 {x : Int32} (C : zC p s m args c cc own nL G A) (hd : decode cc pc = .ok (.ifCond .le 7, 3)) (hd1 : decode cc (pc + 3) = .ok (.iconst 0, 1)) (hd2 : decode cc (pc + 4) = .ok (.goto 4, 3)) (hd3 : decode cc (pc + 7) = .ok (.iconst 1, 1)) (k : Zj p l e R s m args below meth c G A cells slots Q bs lo (pc + 8) (.int (bI (decide (x ≤ 0))) :: st)) : Zj p l e R s m args below meth c G A cells slots Q bs lo pc (.int x :: st) := by
  refine zj_if_le (pc + 7) C hd (by omega) (fun h => ?_) (fun h => ?_)
  · refine zj_iconst (v := 1) C hd3 (by decide) ?_
    have e0 : (bI (decide (x ≤ 0))) = 1 := by simp [bI, h]
    rw [e0] at k
    exact k
  · refine zj_iconst (v := 0) C hd1 (by decide) ?_
    refine zj_goto (tgt := pc + 8) C hd2 (by omega) ?_
    have e0 : (bI (decide (x ≤ 0))) = 0 := by simp [bI, h]
    rw [e0] at k
    exact k
theorem zm_if_le_0 {x : Int32} (C : zC p s m args c cc own nL G A) (hd : decode cc pc = .ok (.ifCond .le 7, 3)) (hd1 : decode cc (pc + 3) = .ok (.iconst 1, 1)) (hd2 : decode cc (pc + 4) = .ok (.goto 4, 3)) (hd3 : decode cc (pc + 7) = .ok (.iconst 0, 1)) (k : Zj p l e R s m args below meth c G A cells slots Q bs lo (pc + 8) (.int (bI (!(decide (x ≤ 0)))) :: st)) : Zj p l e R s m args below meth c G A cells slots Q bs lo pc (.int x :: st) := by
  refine zj_if_le (pc + 7) C hd (by omega) (fun h => ?_) (fun h => ?_)
  · refine zj_iconst (v := 0) C hd3 (by decide) ?_
    have e0 : (bI (!(decide (x ≤ 0)))) = 0 := by simp [bI, h]
    rw [e0] at k
    exact k
  · refine zj_iconst (v := 1) C hd1 (by decide) ?_
    refine zj_goto (tgt := pc + 8) C hd2 (by omega) ?_
    have e0 : (bI (!(decide (x ≤ 0)))) = 1 := by simp [bI, h]
    rw [e0] at k
    exact k
theorem zm_if_gt_1 {x : Int32} (C : zC p s m args c cc own nL G A) (hd : decode cc pc = .ok (.ifCond .gt 7, 3)) (hd1 : decode cc (pc + 3) = .ok (.iconst 0, 1)) (hd2 : decode cc (pc + 4) = .ok (.goto 4, 3)) (hd3 : decode cc (pc + 7) = .ok (.iconst 1, 1)) (k : Zj p l e R s m args below meth c G A cells slots Q bs lo (pc + 8) (.int (bI (decide (0 < x))) :: st)) : Zj p l e R s m args below meth c G A cells slots Q bs lo pc (.int x :: st) := by
  refine zj_if_gt (pc + 7) C hd (by omega) (fun h => ?_) (fun h => ?_)
  · refine zj_iconst (v := 1) C hd3 (by decide) ?_
    have e0 : (bI (decide (0 < x))) = 1 := by simp [bI, h]
    rw [e0] at k
    exact k
  · refine zj_iconst (v := 0) C hd1 (by decide) ?_
    refine zj_goto (tgt := pc + 8) C hd2 (by omega) ?_
    have e0 : (bI (decide (0 < x))) = 0 := by simp [bI, h]
    rw [e0] at k
    exact k
theorem zm_if_gt_0 {x : Int32} (C : zC p s m args c cc own nL G A) (hd : decode cc pc = .ok (.ifCond .gt 7, 3)) (hd1 : decode cc (pc + 3) = .ok (.iconst 1, 1)) (hd2 : decode cc (pc + 4) = .ok (.goto 4, 3)) (hd3 : decode cc (pc + 7) = .ok (.iconst 0, 1)) (k : Zj p l e R s m args below meth c G A cells slots Q bs lo (pc + 8) (.int (bI (!(decide (0 < x)))) :: st)) : Zj p l e R s m args below meth c G A cells slots Q bs lo pc (.int x :: st) := by
  refine zj_if_gt (pc + 7) C hd (by omega) (fun h => ?_) (fun h => ?_)
  · refine zj_iconst (v := 0) C hd3 (by decide) ?_
    have e0 : (bI (!(decide (0 < x)))) = 0 := by simp [bI, h]
    rw [e0] at k
    exact k
  · refine zj_iconst (v := 1) C hd1 (by decide) ?_
    refine zj_goto (tgt := pc + 8) C hd2 (by omega) ?_
    have e0 : (bI (!(decide (0 < x)))) = 1 := by simp [bI, h]
    rw [e0] at k
    exact k
theorem zm_icmp_eq_1 {x y : Int32} (C : zC p s m args c cc own nL G A) (hd : decode cc pc = .ok (.if_icmp .eq 7, 3)) (hd1 : decode cc (pc + 3) = .ok (.iconst 0, 1)) (hd2 : decode cc (pc + 4) = .ok (.goto 4, 3)) (hd3 : decode cc (pc + 7) = .ok (.iconst 1, 1)) (k : Zj p l e R s m args below meth c G A cells slots Q bs lo (pc + 8) (.int (bI (decide (x = y))) :: st)) : Zj p l e R s m args below meth c G A cells slots Q bs lo pc (.int y :: .int x :: st) := by
  refine zj_icmp_eq (pc + 7) C hd (by omega) (fun h => ?_) (fun h => ?_)
  · refine zj_iconst (v := 1) C hd3 (by decide) ?_
    have e0 : (bI (decide (x = y))) = 1 := by simp [bI, h]
    rw [e0] at k
    exact k
  · refine zj_iconst (v := 0) C hd1 (by decide) ?_
    refine zj_goto (tgt := pc + 8) C hd2 (by omega) ?_
    have e0 : (bI (decide (x = y))) = 0 := by simp [bI, h]
    rw [e0] at k
    exact k
theorem zm_icmp_eq_0 {x y : Int32} (C : zC p s m args c cc own nL G A) (hd : decode cc pc = .ok (.if_icmp .eq 7, 3)) (hd1 : decode cc (pc + 3) = .ok (.iconst 1, 1)) (hd2 : decode cc (pc + 4) = .ok (.goto 4, 3)) (hd3 : decode cc (pc + 7) = .ok (.iconst 0, 1)) (k : Zj p l e R s m args below meth c G A cells slots Q bs lo (pc + 8) (.int (bI (!(decide (x = y)))) :: st)) : Zj p l e R s m args below meth c G A cells slots Q bs lo pc (.int y :: .int x :: st) := by
  refine zj_icmp_eq (pc + 7) C hd (by omega) (fun h => ?_) (fun h => ?_)
  · refine zj_iconst (v := 0) C hd3 (by decide) ?_
    have e0 : (bI (!(decide (x = y)))) = 0 := by simp [bI, h]
    rw [e0] at k
    exact k
  · refine zj_iconst (v := 1) C hd1 (by decide) ?_
    refine zj_goto (tgt := pc + 8) C hd2 (by omega) ?_
    have e0 : (bI (!(decide (x = y)))) = 1 := by simp [bI, h]
    rw [e0] at k
    exact k
theorem zm_icmp_ne_1 {x y : Int32} (C : zC p s m args c cc own nL G A) (hd : decode cc pc = .ok (.if_icmp .ne 7, 3)) (hd1 : decode cc (pc + 3) = .ok (.iconst 0, 1)) (hd2 : decode cc (pc + 4) = .ok (.goto 4, 3)) (hd3 : decode cc (pc + 7) = .ok (.iconst 1, 1)) (k : Zj p l e R s m args below meth c G A cells slots Q bs lo (pc + 8) (.int (bI (decide (¬ x = y))) :: st)) : Zj p l e R s m args below meth c G A cells slots Q bs lo pc (.int y :: .int x :: st) := by
  refine zj_icmp_ne (pc + 7) C hd (by omega) (fun h => ?_) (fun h => ?_)
  · refine zj_iconst (v := 1) C hd3 (by decide) ?_
    have e0 : (bI (decide (¬ x = y))) = 1 := by simp [bI, h]
    rw [e0] at k
    exact k
  · refine zj_iconst (v := 0) C hd1 (by decide) ?_
    refine zj_goto (tgt := pc + 8) C hd2 (by omega) ?_
    have e0 : (bI (decide (¬ x = y))) = 0 := by simp [bI, h]
    rw [e0] at k
    exact k
theorem zm_icmp_ne_0 {x y : Int32} (C : zC p s m args c cc own nL G A) (hd : decode cc pc = .ok (.if_icmp .ne 7, 3)) (hd1 : decode cc (pc + 3) = .ok (.iconst 1, 1)) (hd2 : decode cc (pc + 4) = .ok (.goto 4, 3)) (hd3 : decode cc (pc + 7) = .ok (.iconst 0, 1)) (k : Zj p l e R s m args below meth c G A cells slots Q bs lo (pc + 8) (.int (bI (!(decide (¬ x = y)))) :: st)) : Zj p l e R s m args below meth c G A cells slots Q bs lo pc (.int y :: .int x :: st) := by
  refine zj_icmp_ne (pc + 7) C hd (by omega) (fun h => ?_) (fun h => ?_)
  · refine zj_iconst (v := 0) C hd3 (by decide) ?_
    have e0 : (bI (!(decide (¬ x = y)))) = 0 := by simp [bI, h]
    rw [e0] at k
    exact k
  · refine zj_iconst (v := 1) C hd1 (by decide) ?_
    refine zj_goto (tgt := pc + 8) C hd2 (by omega) ?_
    have e0 : (bI (!(decide (¬ x = y)))) = 1 := by simp [bI, h]
    rw [e0] at k
    exact k
theorem zm_icmp_lt_1 {x y : Int32} (C : zC p s m args c cc own nL G A) (hd : decode cc pc = .ok (.if_icmp .lt 7, 3)) (hd1 : decode cc (pc + 3) = .ok (.iconst 0, 1)) (hd2 : decode cc (pc + 4) = .ok (.goto 4, 3)) (hd3 : decode cc (pc + 7) = .ok (.iconst 1, 1)) (k : Zj p l e R s m args below meth c G A cells slots Q bs lo (pc + 8) (.int (bI (decide (x < y))) :: st)) : Zj p l e R s m args below meth c G A cells slots Q bs lo pc (.int y :: .int x :: st) := by
  refine zj_icmp_lt (pc + 7) C hd (by omega) (fun h => ?_) (fun h => ?_)
  · refine zj_iconst (v := 1) C hd3 (by decide) ?_
    have e0 : (bI (decide (x < y))) = 1 := by simp [bI, h]
    rw [e0] at k
    exact k
  · refine zj_iconst (v := 0) C hd1 (by decide) ?_
    refine zj_goto (tgt := pc + 8) C hd2 (by omega) ?_
    have e0 : (bI (decide (x < y))) = 0 := by simp [bI, h]
    rw [e0] at k
    exact k
theorem zm_icmp_lt_0 {x y : Int32} (C : zC p s m args c cc own nL G A) (hd : decode cc pc = .ok (.if_icmp .lt 7, 3)) (hd1 : decode cc (pc + 3) = .ok (.iconst 1, 1)) (hd2 : decode cc (pc + 4) = .ok (.goto 4, 3)) (hd3 : decode cc (pc + 7) = .ok (.iconst 0, 1)) (k : Zj p l e R s m args below meth c G A cells slots Q bs lo (pc + 8) (.int (bI (!(decide (x < y)))) :: st)) : Zj p l e R s m args below meth c G A cells slots Q bs lo pc (.int y :: .int x :: st) := by
  refine zj_icmp_lt (pc + 7) C hd (by omega) (fun h => ?_) (fun h => ?_)
  · refine zj_iconst (v := 0) C hd3 (by decide) ?_
    have e0 : (bI (!(decide (x < y)))) = 0 := by simp [bI, h]
    rw [e0] at k
    exact k
  · refine zj_iconst (v := 1) C hd1 (by decide) ?_
    refine zj_goto (tgt := pc + 8) C hd2 (by omega) ?_
    have e0 : (bI (!(decide (x < y)))) = 1 := by simp [bI, h]
    rw [e0] at k
    exact k
theorem zm_icmp_le_1 {x y : Int32} (C : zC p s m args c cc own nL G A) (hd : decode cc pc = .ok (.if_icmp .le 7, 3)) (hd1 : decode cc (pc + 3) = .ok (.iconst 0, 1)) (hd2 : decode cc (pc + 4) = .ok (.goto 4, 3)) (hd3 : decode cc (pc + 7) = .ok (.iconst 1, 1)) (k : Zj p l e R s m args below meth c G A cells slots Q bs lo (pc + 8) (.int (bI (decide (x ≤ y))) :: st)) : Zj p l e R s m args below meth c G A cells slots Q bs lo pc (.int y :: .int x :: st) := by
  refine zj_icmp_le (pc + 7) C hd (by omega) (fun h => ?_) (fun h => ?_)
  · refine zj_iconst (v := 1) C hd3 (by decide) ?_
    have e0 : (bI (decide (x ≤ y))) = 1 := by simp [bI, h]
    rw [e0] at k
    exact k
  · refine zj_iconst (v := 0) C hd1 (by decide) ?_
    refine zj_goto (tgt := pc + 8) C hd2 (by omega) ?_
    have e0 : (bI (decide (x ≤ y))) = 0 := by simp [bI, h]
    rw [e0] at k
    exact k
theorem zm_icmp_le_0 {x y : Int32} (C : zC p s m args c cc own nL G A) (hd : decode cc pc = .ok (.if_icmp .le 7, 3)) (hd1 : decode cc (pc + 3) = .ok (.iconst 1, 1)) (hd2 : decode cc (pc + 4) = .ok (.goto 4, 3)) (hd3 : decode cc (pc + 7) = .ok (.iconst 0, 1)) (k : Zj p l e R s m args below meth c G A cells slots Q bs lo (pc + 8) (.int (bI (!(decide (x ≤ y)))) :: st)) : Zj p l e R s m args below meth c G A cells slots Q bs lo pc (.int y :: .int x :: st) := by
  refine zj_icmp_le (pc + 7) C hd (by omega) (fun h => ?_) (fun h => ?_)
  · refine zj_iconst (v := 0) C hd3 (by decide) ?_
    have e0 : (bI (!(decide (x ≤ y)))) = 0 := by simp [bI, h]
    rw [e0] at k
    exact k
  · refine zj_iconst (v := 1) C hd1 (by decide) ?_
    refine zj_goto (tgt := pc + 8) C hd2 (by omega) ?_
    have e0 : (bI (!(decide (x ≤ y)))) = 1 := by simp [bI, h]
    rw [e0] at k
    exact k
theorem zm_icmp_gt_1 {x y : Int32} (C : zC p s m args c cc own nL G A) (hd : decode cc pc = .ok (.if_icmp .gt 7, 3)) (hd1 : decode cc (pc + 3) = .ok (.iconst 0, 1)) (hd2 : decode cc (pc + 4) = .ok (.goto 4, 3)) (hd3 : decode cc (pc + 7) = .ok (.iconst 1, 1)) (k : Zj p l e R s m args below meth c G A cells slots Q bs lo (pc + 8) (.int (bI (decide (y < x))) :: st)) : Zj p l e R s m args below meth c G A cells slots Q bs lo pc (.int y :: .int x :: st) := by
  refine zj_icmp_gt (pc + 7) C hd (by omega) (fun h => ?_) (fun h => ?_)
  · refine zj_iconst (v := 1) C hd3 (by decide) ?_
    have e0 : (bI (decide (y < x))) = 1 := by simp [bI, h]
    rw [e0] at k
    exact k
  · refine zj_iconst (v := 0) C hd1 (by decide) ?_
    refine zj_goto (tgt := pc + 8) C hd2 (by omega) ?_
    have e0 : (bI (decide (y < x))) = 0 := by simp [bI, h]
    rw [e0] at k
    exact k
theorem zm_icmp_gt_0 {x y : Int32} (C : zC p s m args c cc own nL G A) (hd : decode cc pc = .ok (.if_icmp .gt 7, 3)) (hd1 : decode cc (pc + 3) = .ok (.iconst 1, 1)) (hd2 : decode cc (pc + 4) = .ok (.goto 4, 3)) (hd3 : decode cc (pc + 7) = .ok (.iconst 0, 1)) (k : Zj p l e R s m args below meth c G A cells slots Q bs lo (pc + 8) (.int (bI (!(decide (y < x)))) :: st)) : Zj p l e R s m args below meth c G A cells slots Q bs lo pc (.int y :: .int x :: st) := by
  refine zj_icmp_gt (pc + 7) C hd (by omega) (fun h => ?_) (fun h => ?_)
  · refine zj_iconst (v := 0) C hd3 (by decide) ?_
    have e0 : (bI (!(decide (y < x)))) = 0 := by simp [bI, h]
    rw [e0] at k
    exact k
  · refine zj_iconst (v := 1) C hd1 (by decide) ?_
    refine zj_goto (tgt := pc + 8) C hd2 (by omega) ?_
    have e0 : (bI (!(decide (y < x)))) = 1 := by simp [bI, h]
    rw [e0] at k
    exact k
theorem zm_icmp_ge_1 {x y : Int32} (C : zC p s m args c cc own nL G A) (hd : decode cc pc = .ok (.if_icmp .ge 7, 3)) (hd1 : decode cc (pc + 3) = .ok (.iconst 0, 1)) (hd2 : decode cc (pc + 4) = .ok (.goto 4, 3)) (hd3 : decode cc (pc + 7) = .ok (.iconst 1, 1)) (k : Zj p l e R s m args below meth c G A cells slots Q bs lo (pc + 8) (.int (bI (decide (y ≤ x))) :: st)) : Zj p l e R s m args below meth c G A cells slots Q bs lo pc (.int y :: .int x :: st) := by
  refine zj_icmp_ge (pc + 7) C hd (by omega) (fun h => ?_) (fun h => ?_)
  · refine zj_iconst (v := 1) C hd3 (by decide) ?_
    have e0 : (bI (decide (y ≤ x))) = 1 := by simp [bI, h]
    rw [e0] at k
    exact k
  · refine zj_iconst (v := 0) C hd1 (by decide) ?_
    refine zj_goto (tgt := pc + 8) C hd2 (by omega) ?_
    have e0 : (bI (decide (y ≤ x))) = 0 := by simp [bI, h]
    rw [e0] at k
    exact k
theorem zm_icmp_ge_0 {x y : Int32} (C : zC p s m args c cc own nL G A) (hd : decode cc pc = .ok (.if_icmp .ge 7, 3)) (hd1 : decode cc (pc + 3) = .ok (.iconst 1, 1)) (hd2 : decode cc (pc + 4) = .ok (.goto 4, 3)) (hd3 : decode cc (pc + 7) = .ok (.iconst 0, 1)) (k : Zj p l e R s m args below meth c G A cells slots Q bs lo (pc + 8) (.int (bI (!(decide (y ≤ x)))) :: st)) : Zj p l e R s m args below meth c G A cells slots Q bs lo pc (.int y :: .int x :: st) := by
  refine zj_icmp_ge (pc + 7) C hd (by omega) (fun h => ?_) (fun h => ?_)
  · refine zj_iconst (v := 0) C hd3 (by decide) ?_
    have e0 : (bI (!(decide (y ≤ x)))) = 0 := by simp [bI, h]
    rw [e0] at k
    exact k
  · refine zj_iconst (v := 1) C hd1 (by decide) ?_
    refine zj_goto (tgt := pc + 8) C hd2 (by omega) ?_
    have e0 : (bI (!(decide (y ≤ x)))) = 1 := by simp [bI, h]
    rw [e0] at k
    exact k
theorem zm_ifb_eq_1 {b : Bool} (C : zC p s m args c cc own nL G A) (hd : decode cc pc = .ok (.ifCond .eq 7, 3)) (hd1 : decode cc (pc + 3) = .ok (.iconst 0, 1)) (hd2 : decode cc (pc + 4) = .ok (.goto 4, 3)) (hd3 : decode cc (pc + 7) = .ok (.iconst 1, 1)) (k : Zj p l e R s m args below meth c G A cells slots Q bs lo (pc + 8) (.int (bI (!b)) :: st)) : Zj p l e R s m args below meth c G A cells slots Q bs lo pc (.int (bI b) :: st) := by
  refine zj_ifb_eq (pc + 7) C hd (by omega) (fun h => ?_) (fun h => ?_)
  · refine zj_iconst (v := 1) C hd3 (by decide) ?_
    have e0 : (bI (!b)) = 1 := by simp [bI, h]
    rw [e0] at k
    exact k
  · refine zj_iconst (v := 0) C hd1 (by decide) ?_
    refine zj_goto (tgt := pc + 8) C hd2 (by omega) ?_
    have e0 : (bI (!b)) = 0 := by simp [bI, h]
    rw [e0] at k
    exact k
theorem zm_ifb_eq_0 {b : Bool} (C : zC p s m args c cc own nL G A) (hd : decode cc pc = .ok (.ifCond .eq 7, 3)) (hd1 : decode cc (pc + 3) = .ok (.iconst 1, 1)) (hd2 : decode cc (pc + 4) = .ok (.goto 4, 3)) (hd3 : decode cc (pc + 7) = .ok (.iconst 0, 1)) (k : Zj p l e R s m args below meth c G A cells slots Q bs lo (pc + 8) (.int (bI (!(!b))) :: st)) : Zj p l e R s m args below meth c G A cells slots Q bs lo pc (.int (bI b) :: st) := by
  refine zj_ifb_eq (pc + 7) C hd (by omega) (fun h => ?_) (fun h => ?_)
  · refine zj_iconst (v := 0) C hd3 (by decide) ?_
    have e0 : (bI (!(!b))) = 0 := by simp [bI, h]
    rw [e0] at k
    exact k
  · refine zj_iconst (v := 1) C hd1 (by decide) ?_
    refine zj_goto (tgt := pc + 8) C hd2 (by omega) ?_
    have e0 : (bI (!(!b))) = 1 := by simp [bI, h]
    rw [e0] at k
    exact k
theorem zm_ifb_ne_1 {b : Bool} (C : zC p s m args c cc own nL G A) (hd : decode cc pc = .ok (.ifCond .ne 7, 3)) (hd1 : decode cc (pc + 3) = .ok (.iconst 0, 1)) (hd2 : decode cc (pc + 4) = .ok (.goto 4, 3)) (hd3 : decode cc (pc + 7) = .ok (.iconst 1, 1)) (k : Zj p l e R s m args below meth c G A cells slots Q bs lo (pc + 8) (.int (bI (b)) :: st)) : Zj p l e R s m args below meth c G A cells slots Q bs lo pc (.int (bI b) :: st) := by
  refine zj_ifb_ne (pc + 7) C hd (by omega) (fun h => ?_) (fun h => ?_)
  · refine zj_iconst (v := 1) C hd3 (by decide) ?_
    have e0 : (bI (b)) = 1 := by simp [bI, h]
    rw [e0] at k
    exact k
  · refine zj_iconst (v := 0) C hd1 (by decide) ?_
    refine zj_goto (tgt := pc + 8) C hd2 (by omega) ?_
    have e0 : (bI (b)) = 0 := by simp [bI, h]
    rw [e0] at k
    exact k
theorem zm_ifb_ne_0 {b : Bool} (C : zC p s m args c cc own nL G A) (hd : decode cc pc = .ok (.ifCond .ne 7, 3)) (hd1 : decode cc (pc + 3) = .ok (.iconst 1, 1)) (hd2 : decode cc (pc + 4) = .ok (.goto 4, 3)) (hd3 : decode cc (pc + 7) = .ok (.iconst 0, 1)) (k : Zj p l e R s m args below meth c G A cells slots Q bs lo (pc + 8) (.int (bI (!(b))) :: st)) : Zj p l e R s m args below meth c G A cells slots Q bs lo pc (.int (bI b) :: st) := by
  refine zj_ifb_ne (pc + 7) C hd (by omega) (fun h => ?_) (fun h => ?_)
  · refine zj_iconst (v := 0) C hd3 (by decide) ?_
    have e0 : (bI (!(b))) = 0 := by simp [bI, h]
    rw [e0] at k
    exact k
  · refine zj_iconst (v := 1) C hd1 (by decide) ?_
    refine zj_goto (tgt := pc + 8) C hd2 (by omega) ?_
    have e0 : (bI (!(b))) = 1 := by simp [bI, h]
    rw [e0] at k
    exact k
end ZM
/-- rows of numbers in a table, as its cells lie: TABLE -/
def tbl (G : GG) (a b n : Nat) (c : Int32) (f : Nat → Int32) (r : Int32) : va_W := [(a, .inr (2, [.ref b, .int c, .int r])), (b, .inl (G.2 0, n, .inl f))]
def tAt (n : Nat) (c : Int32) (f : Nat → Int32) (x y : Int32) : Int32 := if x * c + y < 0 then 0 else if nI n ≤ x * c + y then 0 else f (x * c + y).toNatClampNeg
def tPut (n : Nat) (c : Int32) (f : Nat → Int32) (x y v : Int32) : Nat → Int32 := if x * c + y < 0 then f else if nI n ≤ x * c + y then f else upd f (x * c + y).toNatClampNeg v
def tHas (r x : Int32) : Bool := !(decide (x < 0)) && !(decide (r ≤ x))
def tFull (n : Nat) (c r : Int32) : Bool := !(decide ((r + 1) * c ≤ nI n))
def tAdd (n : Nat) (c r : Int32) : Int32 := if tFull n c r then -5 else r + 1 - 1
def tAdd' (n : Nat) (c r : Int32) : Int32 := if tFull n c r then r else r + 1
/-- an array's cell, by its places alone -/
theorem arrV_congr {cA : ClassId} {n : Nat} {f g : Nat → Value} (h : ∀ k, k < n → f k = g k) : arrV cA n f = arrV cA n g := by
  unfold arrV
  have : (fun j : Fin n => f j.val) = fun j : Fin n => g j.val := funext fun j => h j.val j.isLt
  rw [this]
theorem zcell {cA : ClassId} {n : Nat} {f g : Nat → Int32} (h : ∀ k, k < n → f k = g k) : vp_cell cA (n, .inl f) = vp_cell cA (n, .inl g) := by
  rw [vp_cell_i, vp_cell_i]
  exact arrV_congr fun k hk => by rw [h k hk]
theorem zcell_at {D : va_G} {cl : List vw_C} {b n : Nat} {cA : ClassId} {f g : Nat → Int32} {H : Heap} (h : ∀ k, k < n → f k = g k) (k : va_at D cl (b, .inl (cA, n, .inl f)) H) : va_at D cl (b, .inl (cA, n, .inl g)) H := by
  have h1 : H[b]? = some (vp_cell cA (n, .inl f)) := k
  rw [zcell h] at h1
  exact h1
section ZN
variable {p : Program} {l : Launch} {e : Env} {R : Room} {s : State} {m : MethodId} {args : Array Value} {below : List Frame} {meth : Method} {c : Code} {G : GG} {A : Nat → Prop} {cells slots : Nat} {Q : State → Prop} {bs : List va_W} {lo : List (Option Value)} {pc : Nat} {st : List Value}
/-- what a row holds beyond its places doesn't matter -/
theorem zj_row (i : Nat) {b n : Nat} {cA : ClassId} {f : Nat → Int32} (g : Nat → Int32) (hb : bs[i]? = some [(b, .inl (cA, n, .inl f))]) (h : ∀ k, k < n → f k = g k) (k : Zj p l e R s m args below meth c G A cells slots Q (bs.set i [(b, .inl (cA, n, .inl g))]) lo pc st) : Zj p l e R s m args below meth c G A cells slots Q bs lo pc st := by
  intro H locs ls hP hD hS hl
  obtain ⟨q, h1, h2⟩ := zf_at hb
  refine k H locs ls ?_ ?_ hS hl
  · rw [h2]
    intro j x hj
    by_cases hq : j = q
    · subst hq
      rw [List.getElem?_set_self (List.getElem?_eq_some_iff.mp h1).1] at hj
      cases hj
      exact zcell_at h (hP j _ h1)
    · rw [List.getElem?_set_ne (fun e => hq e.symm)] at hj
      exact hP j x hj
  · rw [h2]
    exact hD.set h1
end ZN
