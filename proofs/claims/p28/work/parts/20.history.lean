section ZG
variable {p : Program} {l : Launch} {e : Env} {R : Room} {s : State} {m : MethodId} {args : Array Value} {below : List Frame} {meth : Method} {c : Code} {G : GG} {A : Nat → Prop} {cells slots : Nat} {Q : State → Prop} {bs : List va_W} {lo : List (Option Value)} {pc : Nat} {st : List Value} {cc : ByteArray} {own : String} {nL : Nat}
theorem zj_if_ge {off : Int} {x : Int32} (tgt : Nat) (C : zC p s m args c cc own nL G A) (hd : decode cc pc = .ok (.ifCond .ge off, 3)) (ht : (pc : Int) + off = (tgt : Int)) (kt : 0 ≤ x → Zj p l e R s m args below meth c G A cells slots Q bs lo tgt st) (kf : ¬ 0 ≤ x → Zj p l e R s m args below meth c G A cells slots Q bs lo (pc + 3) st) : Zj p l e R s m args below meth c G A cells slots Q bs lo pc (.int x :: st) := fun H locs ls hP hD hS hl => lv_if_ge C.1 C.2.1 hd ht (fun h => kt h H locs ls hP hD hS hl) (fun h => kf h H locs ls hP hD hS hl)
end ZG
/-! THE HISTORY: four plans, in the order of their age -/
def pl4 (q : Nat → Nat → Nat) : Nat → Option Nat := fun k => if k < 4 then some (q k 0) else none
def histB (G : GG) (a : Nat → Nat) (q : Nat → Nat → Nat) (P : Nat → PC) (n : Nat) : List va_W := [[(a 0, .inr (0, [.ref (a 1), .int (nI n)]))], [(a 1, .inl (G.2 2, 4, .inr (.inr (.inr (.inr (pl4 q))))))], plan G (q 0) (P 0), plan G (q 1) (P 1), plan G (q 2) (P 2), plan G (q 3) (P 3)]
def hist (G : GG) (a : Nat → Nat) (q : Nat → Nat → Nat) (P : Nat → PC) (n : Nat) : va_W := (histB G a q P n).flatten
def rot {α : Type} (f : Nat → α) : Nat → α := fun k => if k = 3 then f 0 else f (k + 1)
def updP (P : Nat → PC) (k : Nat) (X : PC) : Nat → PC := fun j => if j = k then X else P j
def arI (q : Nat → Nat → Nat) (k : Nat) : Nat → Option Nat := fun j => if j + 1 < k then some (q (j + 1) 0) else if j < 4 then some (q j 0) else none
theorem arI_1 {q : Nat → Nat → Nat} : arI q 1 = pl4 q := by
  funext j
  unfold arI pl4
  rw [if_neg (by omega)]
theorem arI_at {q : Nat → Nat → Nat} {k : Nat} (h : k < 4) : arI q k k = some (q k 0) := by
  unfold arI
  rw [if_neg (by omega), if_pos h]
theorem arI_s {q : Nat → Nat → Nat} {k : Nat} (h1 : 1 ≤ k) : va_up (arI q k) (k - 1) (some (q k 0)) = arI q (k + 1) := by
  funext j
  unfold va_up arI
  by_cases hj : j = k - 1
  · subst hj
    rw [if_pos rfl, if_pos (by omega), show k - 1 + 1 = k by omega]
  · rw [if_neg hj]
    by_cases h2 : j + 1 < k
    · rw [if_pos h2, if_pos (by omega)]
    · rw [if_neg h2, if_neg (show ¬ j + 1 < k + 1 by omega)]
theorem arI_4 {q : Nat → Nat → Nat} : va_up (arI q 4) 3 (some (q 0 0)) = pl4 (rot q) := by
  funext j
  unfold va_up arI pl4 rot
  by_cases h3 : j = 3
  · subst h3; rfl
  · rw [if_neg h3]
    by_cases h2 : j + 1 < 4
    · rw [if_pos h2, if_pos (by omega), if_neg h3]
    · rw [if_neg h2, if_neg (by omega), if_neg (by omega)]
theorem plan_0 {G : GG} {a : Nat → Nat} {P : PC} : (a 0, .inr (1, [.ref (a 1), .ref (a 3), .ref (a 5)])) ∈ plan G a P := List.mem_cons_self
theorem hist_mem {G : GG} {q : Nat → Nat → Nat} {P : Nat → PC} {b0 b1 : va_W} {k : Nat} (h : k < 4) : (q k 0, .inr (1, [.ref (q k 1), .ref (q k 3), .ref (q k 5)])) ∈ ([b0, b1, plan G (q 0) (P 0), plan G (q 1) (P 1), plan G (q 2) (P 2), plan G (q 3) (P 3)] : List va_W).flatten := by
  have h0 : plan G (q k) (P k) ∈ ([b0, b1, plan G (q 0) (P 0), plan G (q 1) (P 1), plan G (q 2) (P 2), plan G (q 3) (P 3)] : List va_W) := by
    match k, h with
    | 0, _ => simp
    | 1, _ => simp
    | 2, _ => simp
    | 3, _ => simp
  exact List.mem_flatten.mpr ⟨_, h0, plan_0⟩

set_option maxRecDepth 100000 in
set_option maxHeartbeats 4000000 in
theorem m_X0_size {l : Launch} {G : GG} {a : Nat → Nat} {q : Nat → Nat → Nat} {P : Nat → PC} {n : Nat} : zX l G yX0_size cX0_size 1 (some .int) 0 0 0 0 [.ref (a 0)] (hist G a q P n) (zF (some (.int (nI n))) (hist G a q P n)) := by
  refine zj_startF RX0 (by decide +kernel) rfl rfl rfl (bs := [[((a 0), .inr (0, [.ref (a 1), .int (nI n)]))], [((a 1), .inl (G.2 2, 4, .inr (.inr (.inr (.inr (pl4 q))))))], plan G (q 0) (P 0), plan G (q 1) (P 1), plan G (q 2) (P 2), plan G (q 3) (P 3)]) rfl (lo := [some (.ref (a 0))]) rfl ?_
  intro p0 e0 s0 m0 args0 below0 meth0 c0 A0 C hr hlocks
  refine zj_aload_n (pc := 0) C dX0_size_0 rfl ?_
  refine gf_X0_1 (pc := 1) C dX0_size_1 0 rfl ?_
  refine zj_iretF C hr hlocks dX0_size_4 ?_ rfl
  exact rfl
set_option maxRecDepth 100000 in
set_option maxHeartbeats 4000000 in
theorem m_X0_dropOldest {l : Launch} {G : GG} {a : Nat → Nat} {q : Nat → Nat → Nat} {P : Nat → PC} {n : Nat} : zX l G yX0_dropOldest cX0_dropOldest 4 none 0 0 0 0 [.ref (a 0)] (hist G a q P n) (zF none (hist G a (rot q) (rot P) 3)) := by
  refine zj_startF RX0 (by decide +kernel) rfl rfl rfl (bs := [[((a 0), .inr (0, [.ref (a 1), .int (nI n)]))], [((a 1), .inl (G.2 2, 4, .inr (.inr (.inr (.inr (pl4 q))))))], plan G (q 0) (P 0), plan G (q 1) (P 1), plan G (q 2) (P 2), plan G (q 3) (P 3)]) rfl (lo := [some (.ref (a 0)), none, none, none]) rfl ?_
  intro p0 e0 s0 m0 args0 below0 meth0 c0 A0 C hr hlocks
  refine zj_aload_n (pc := 0) C dX0_dropOldest_0 rfl ?_
  refine gf_X0_0 (pc := 1) C dX0_dropOldest_1 0 rfl ?_
  refine zj_alen (pc := 4) (t0 := 2) C dX0_dropOldest_4 1 (by decide) rfl ?_
  refine zj_iconst (pc := 5) (v := 1) C dX0_dropOldest_5 (by decide) ?_
  refine zj_isub (pc := 6) C dX0_dropOldest_6 ?_
  refine zj_top (x' := nI 3) (by decide) ?_
  refine zj_istore_n (pc := 7) C dX0_dropOldest_7 (Nat.le_of_ble_eq_true rfl) ?_
  refine zj_iload_n (pc := 8) C dX0_dropOldest_8 rfl ?_
  refine zj_if_ge (pc := 9) 13 C dX0_dropOldest_9 (by decide) (fun c_9 => ?_) (fun c_9 => absurd (show (0 : Int32) ≤ nI 3 by decide) c_9)
  refine zj_aload_n (pc := 13) C dX0_dropOldest_13 rfl ?_
  refine gf_X0_0 (pc := 14) C dX0_dropOldest_14 0 rfl ?_
  refine zj_iconst (pc := 17) (v := 0) C dX0_dropOldest_17 (by decide) ?_
  refine zj_aald (pc := 18) (0) C dX0_dropOldest_18 1 rfl rfl (by decide) (by decide) (v := .ref (q 0 0)) rfl ?_
  refine zj_astore_n (pc := 19) C dX0_dropOldest_19 (Nat.le_of_ble_eq_true rfl) ?_
  refine zj_iconst (pc := 20) (v := 0) C dX0_dropOldest_20 (by decide) ?_
  refine zj_istore_n (pc := 21) C dX0_dropOldest_21 (Nat.le_of_ble_eq_true rfl) ?_
  refine zj_keep [true, true, true, true] ?_
  refine zj_blk (bs' := [[((a 0), .inr (0, [.ref (a 1), .int (nI n)]))], [((a 1), .inl (G.2 2, 4, .inr (.inr (.inr (.inr (arI q (0 + 1)))))))], plan G (q 0) (P 0), plan G (q 1) (P 1), plan G (q 2) (P 2), plan G (q 3) (P 3)]) (by rw [Nat.zero_add, arI_1]) ?_
  refine zj_loopW (σ := Nat) (fun x => x ≤ 3) (fun x => 3 - x) (fun x => [[((a 0), .inr (0, [.ref (a 1), .int (nI n)]))], [((a 1), .inl (G.2 2, 4, .inr (.inr (.inr (.inr (arI q (x + 1)))))))], plan G (q 0) (P 0), plan G (q 1) (P 1), plan G (q 2) (P 2), plan G (q 3) (P 3)]) (fun x => [some (.ref (a 0)), some (.int (nI 3)), some (.ref (q 0 0)), some (.int (nI x))]) ?_ 0 (Nat.zero_le _)
  intro k hk ih
  refine zj_iload_n (pc := 22) C dX0_dropOldest_22 rfl ?_
  refine zj_iload_n (pc := 23) C dX0_dropOldest_23 rfl ?_
  refine zj_icmp_ge (pc := 24) 47 C dX0_dropOldest_24 (by decide) (fun c_24 => ?_) (fun c_24 => ?_)
  · have hk4 : k = 3 := Nat.le_antisymm hk (zle c_24 (by omega))
    refine zj_aload_n (pc := 47) C dX0_dropOldest_47 rfl ?_
    refine gf_X0_0 (pc := 48) C dX0_dropOldest_48 0 rfl ?_
    refine zj_iload_n (pc := 51) C dX0_dropOldest_51 rfl ?_
    refine zj_aload_n (pc := 52) C dX0_dropOldest_52 rfl ?_
    refine zj_aast (pc := 53) (3) C dX0_dropOldest_53 1 0 rfl (⟨_, hist_mem (k := 0) (by decide), rfl⟩) rfl (by decide) (by decide) ?_
    refine zj_aload_n (pc := 54) C dX0_dropOldest_54 rfl ?_
    refine zj_iload_n (pc := 55) C dX0_dropOldest_55 rfl ?_
    refine pf_X0_1 (pc := 56) C dX0_dropOldest_56 0 rfl ?_
    have e9 : va_up (arI q (k + 1)) 3 (some (q 0 0)) = pl4 (rot q) := by rw [hk4]; exact arI_4
    refine zj_blk (bs' := [[((a 0), .inr (0, [.ref (a 1), .int (nI 3)]))], [((a 1), .inl (G.2 2, 4, .inr (.inr (.inr (.inr (pl4 (rot q)))))))], plan G (q 0) (P 0), plan G (q 1) (P 1), plan G (q 2) (P 2), plan G (q 3) (P 3)]) (by rw [← e9]; rfl) ?_
    refine zj_eqp (bs' := [[((a 0), .inr (0, [.ref (a 1), .int (nI 3)]))], [((a 1), .inl (G.2 2, 4, .inr (.inr (.inr (.inr (pl4 (rot q)))))))], plan G (rot q 0) (rot P 0), plan G (rot q 1) (rot P 1), plan G (rot q 2) (rot P 2), plan G (rot q 3) (rot P 3)]) (((List.perm_append_comm (l₁ := [plan G (q 0) (P 0)]) (l₂ := [plan G (q 1) (P 1), plan G (q 2) (P 2), plan G (q 3) (P 3)])).cons _).cons _).flatten ?_
    refine zj_vretF C hr hlocks dX0_dropOldest_59 ?_
    exact rfl
  · have hlt : k < 3 := zlt c_24 (by omega)
    refine zj_aload_n (pc := 27) C dX0_dropOldest_27 rfl ?_
    refine gf_X0_0 (pc := 28) C dX0_dropOldest_28 0 rfl ?_
    refine zj_iload_n (pc := 31) C dX0_dropOldest_31 rfl ?_
    refine zj_aload_n (pc := 32) C dX0_dropOldest_32 rfl ?_
    refine gf_X0_0 (pc := 33) C dX0_dropOldest_33 0 rfl ?_
    refine zj_iload_n (pc := 36) C dX0_dropOldest_36 rfl ?_
    refine zj_iconst (pc := 37) (v := 1) C dX0_dropOldest_37 (by decide) ?_
    refine zj_iadd (pc := 38) C dX0_dropOldest_38 ?_
    refine zj_aald (pc := 39) ((k + 1)) C dX0_dropOldest_39 1 rfl (nI_1 _) (by omega) (by decide) (v := .ref (q (k + 1) 0)) (by rw [arI_at (by omega)]; rfl) ?_
    refine zj_aast (pc := 40) (k) C dX0_dropOldest_40 1 0 rfl (⟨_, hist_mem (k := k + 1) (by omega), rfl⟩) rfl (by omega) (by decide) ?_
    refine zj_iinc (pc := 41) (v := nI (k + 1)) C dX0_dropOldest_41 rfl (nI_1 _) ?_
    refine zj_goto (pc := 44) (tgt := 22) C dX0_dropOldest_44 (by decide) ?_
    refine zj_blk (bs' := [[((a 0), .inr (0, [.ref (a 1), .int (nI n)]))], [((a 1), .inl (G.2 2, 4, .inr (.inr (.inr (.inr (arI q (k + 1 + 1)))))))], plan G (q 0) (P 0), plan G (q 1) (P 1), plan G (q 2) (P 2), plan G (q 3) (P 3)]) (by rw [← arI_s (Nat.le_add_left 1 k)]; rfl) ?_
    exact ih (k + 1) hlt (by omega)
set_option maxRecDepth 100000 in
set_option maxHeartbeats 4000000 in
theorem m_X0_record0 {l : Launch} {G : GG} {a b : Nat → Nat} {q : Nat → Nat → Nat} {P : Nat → PC} {X : PC} : zX l G yX0_record cX0_record 3 none 3 68 0 0 [.ref (a 0), .ref (b 0)] (hist G a q P 0 ++ plan G b X) (zF none (hist G a q (updP P 0 X) 1 ++ plan G b X)) := by
  refine zj_startF RX0 (by decide +kernel) rfl rfl rfl (bs := [[((a 0), .inr (0, [.ref (a 1), .int (nI 0)]))], [((a 1), .inl (G.2 2, 4, .inr (.inr (.inr (.inr (pl4 q))))))], plan G (q 0) (P 0), plan G (q 1) (P 1), plan G (q 2) (P 2), plan G (q 3) (P 3), plan G b X]) rfl (lo := [some (.ref (a 0)), some (.ref (b 0)), none]) rfl ?_
  intro p0 e0 s0 m0 args0 below0 meth0 c0 A0 C hr hlocks
  refine zj_aload_n (pc := 0) C dX0_record_0 rfl ?_
  refine gf_X0_1 (pc := 1) C dX0_record_1 0 rfl ?_
  refine zj_aload_n (pc := 4) C dX0_record_4 rfl ?_
  refine gf_X0_0 (pc := 5) C dX0_record_5 0 rfl ?_
  refine zj_alen (pc := 8) (t0 := 2) C dX0_record_8 1 (by decide) rfl ?_
  refine zj_icmp_lt (pc := 9) 16 C dX0_record_9 (by decide) (fun c_9 => ?_) (fun c_9 => absurd (show nI 0 < nI 4 by decide) c_9)
  refine zj_aload_n (pc := 16) C dX0_record_16 rfl ?_
  refine gf_X0_1 (pc := 17) C dX0_record_17 0 rfl ?_
  refine zj_if_lt (pc := 20) 35 C dX0_record_20 (by decide) (fun c_20 => absurd c_20 (by decide)) (fun c_20 => ?_)
  refine zj_aload_n (pc := 23) C dX0_record_23 rfl ?_
  refine gf_X0_1 (pc := 24) C dX0_record_24 0 rfl ?_
  refine zj_aload_n (pc := 27) C dX0_record_27 rfl ?_
  refine gf_X0_0 (pc := 28) C dX0_record_28 0 rfl ?_
  refine zj_alen (pc := 31) (t0 := 2) C dX0_record_31 1 (by decide) rfl ?_
  refine zj_icmp_lt (pc := 32) 36 C dX0_record_32 (by decide) (fun c_32 => ?_) (fun c_32 => absurd (show nI 0 < nI 4 by decide) c_32)
  refine zj_aload_n (pc := 36) C dX0_record_36 rfl ?_
  refine gf_X0_0 (pc := 37) C dX0_record_37 0 rfl ?_
  refine zj_aload_n (pc := 40) C dX0_record_40 rfl ?_
  refine gf_X0_1 (pc := 41) C dX0_record_41 0 rfl ?_
  refine zj_aald (pc := 44) (0) C dX0_record_44 1 rfl rfl (by decide) (by decide) (v := .ref (q 0 0)) rfl ?_
  refine zj_astore_n (pc := 45) C dX0_record_45 (Nat.le_of_ble_eq_true rfl) ?_
  refine zj_aload_n (pc := 46) C dX0_record_46 rfl ?_
  refine zj_ifnull (pc := 47) C dX0_record_47 ?_
  refine zj_aload_n (pc := 50) C dX0_record_50 rfl ?_
  refine zj_aload_n (pc := 51) C dX0_record_51 rfl ?_
  refine zj_callF2n (pc := 52) C kv_X0_25 (m_X1_copyFrom) dX0_record_52 2 6 rfl rfl rfl rfl rfl rfl rfl rfl rfl ⟨0, rfl⟩ rfl rfl ?_
  refine zj_aload_n (pc := 55) C dX0_record_55 rfl ?_
  refine zj_dup (pc := 56) C dX0_record_56 rfl ?_
  refine gf_X0_1 (pc := 57) C dX0_record_57 0 rfl ?_
  refine zj_iconst (pc := 60) (v := 1) C dX0_record_60 (by decide) ?_
  refine zj_iadd (pc := 61) C dX0_record_61 ?_
  refine pf_X0_1 (pc := 62) C dX0_record_62 0 rfl ?_
  refine zj_vretF C hr hlocks dX0_record_65 ?_
  exact rfl
set_option maxRecDepth 100000 in
set_option maxHeartbeats 4000000 in
theorem m_X0_record1 {l : Launch} {G : GG} {a b : Nat → Nat} {q : Nat → Nat → Nat} {P : Nat → PC} {X : PC} : zX l G yX0_record cX0_record 3 none 3 68 0 0 [.ref (a 0), .ref (b 0)] (hist G a q P 1 ++ plan G b X) (zF none (hist G a q (updP P 1 X) 2 ++ plan G b X)) := by
  refine zj_startF RX0 (by decide +kernel) rfl rfl rfl (bs := [[((a 0), .inr (0, [.ref (a 1), .int (nI 1)]))], [((a 1), .inl (G.2 2, 4, .inr (.inr (.inr (.inr (pl4 q))))))], plan G (q 0) (P 0), plan G (q 1) (P 1), plan G (q 2) (P 2), plan G (q 3) (P 3), plan G b X]) rfl (lo := [some (.ref (a 0)), some (.ref (b 0)), none]) rfl ?_
  intro p0 e0 s0 m0 args0 below0 meth0 c0 A0 C hr hlocks
  refine zj_aload_n (pc := 0) C dX0_record_0 rfl ?_
  refine gf_X0_1 (pc := 1) C dX0_record_1 0 rfl ?_
  refine zj_aload_n (pc := 4) C dX0_record_4 rfl ?_
  refine gf_X0_0 (pc := 5) C dX0_record_5 0 rfl ?_
  refine zj_alen (pc := 8) (t0 := 2) C dX0_record_8 1 (by decide) rfl ?_
  refine zj_icmp_lt (pc := 9) 16 C dX0_record_9 (by decide) (fun c_9 => ?_) (fun c_9 => absurd (show nI 1 < nI 4 by decide) c_9)
  refine zj_aload_n (pc := 16) C dX0_record_16 rfl ?_
  refine gf_X0_1 (pc := 17) C dX0_record_17 0 rfl ?_
  refine zj_if_lt (pc := 20) 35 C dX0_record_20 (by decide) (fun c_20 => absurd c_20 (by decide)) (fun c_20 => ?_)
  refine zj_aload_n (pc := 23) C dX0_record_23 rfl ?_
  refine gf_X0_1 (pc := 24) C dX0_record_24 0 rfl ?_
  refine zj_aload_n (pc := 27) C dX0_record_27 rfl ?_
  refine gf_X0_0 (pc := 28) C dX0_record_28 0 rfl ?_
  refine zj_alen (pc := 31) (t0 := 2) C dX0_record_31 1 (by decide) rfl ?_
  refine zj_icmp_lt (pc := 32) 36 C dX0_record_32 (by decide) (fun c_32 => ?_) (fun c_32 => absurd (show nI 1 < nI 4 by decide) c_32)
  refine zj_aload_n (pc := 36) C dX0_record_36 rfl ?_
  refine gf_X0_0 (pc := 37) C dX0_record_37 0 rfl ?_
  refine zj_aload_n (pc := 40) C dX0_record_40 rfl ?_
  refine gf_X0_1 (pc := 41) C dX0_record_41 0 rfl ?_
  refine zj_aald (pc := 44) (1) C dX0_record_44 1 rfl rfl (by decide) (by decide) (v := .ref (q 1 0)) rfl ?_
  refine zj_astore_n (pc := 45) C dX0_record_45 (Nat.le_of_ble_eq_true rfl) ?_
  refine zj_aload_n (pc := 46) C dX0_record_46 rfl ?_
  refine zj_ifnull (pc := 47) C dX0_record_47 ?_
  refine zj_aload_n (pc := 50) C dX0_record_50 rfl ?_
  refine zj_aload_n (pc := 51) C dX0_record_51 rfl ?_
  refine zj_callF2n (pc := 52) C kv_X0_25 (m_X1_copyFrom) dX0_record_52 3 6 rfl rfl rfl rfl rfl rfl rfl rfl rfl ⟨0, rfl⟩ rfl rfl ?_
  refine zj_aload_n (pc := 55) C dX0_record_55 rfl ?_
  refine zj_dup (pc := 56) C dX0_record_56 rfl ?_
  refine gf_X0_1 (pc := 57) C dX0_record_57 0 rfl ?_
  refine zj_iconst (pc := 60) (v := 1) C dX0_record_60 (by decide) ?_
  refine zj_iadd (pc := 61) C dX0_record_61 ?_
  refine pf_X0_1 (pc := 62) C dX0_record_62 0 rfl ?_
  refine zj_vretF C hr hlocks dX0_record_65 ?_
  exact rfl
set_option maxRecDepth 100000 in
set_option maxHeartbeats 4000000 in
theorem m_X0_record2 {l : Launch} {G : GG} {a b : Nat → Nat} {q : Nat → Nat → Nat} {P : Nat → PC} {X : PC} : zX l G yX0_record cX0_record 3 none 3 68 0 0 [.ref (a 0), .ref (b 0)] (hist G a q P 2 ++ plan G b X) (zF none (hist G a q (updP P 2 X) 3 ++ plan G b X)) := by
  refine zj_startF RX0 (by decide +kernel) rfl rfl rfl (bs := [[((a 0), .inr (0, [.ref (a 1), .int (nI 2)]))], [((a 1), .inl (G.2 2, 4, .inr (.inr (.inr (.inr (pl4 q))))))], plan G (q 0) (P 0), plan G (q 1) (P 1), plan G (q 2) (P 2), plan G (q 3) (P 3), plan G b X]) rfl (lo := [some (.ref (a 0)), some (.ref (b 0)), none]) rfl ?_
  intro p0 e0 s0 m0 args0 below0 meth0 c0 A0 C hr hlocks
  refine zj_aload_n (pc := 0) C dX0_record_0 rfl ?_
  refine gf_X0_1 (pc := 1) C dX0_record_1 0 rfl ?_
  refine zj_aload_n (pc := 4) C dX0_record_4 rfl ?_
  refine gf_X0_0 (pc := 5) C dX0_record_5 0 rfl ?_
  refine zj_alen (pc := 8) (t0 := 2) C dX0_record_8 1 (by decide) rfl ?_
  refine zj_icmp_lt (pc := 9) 16 C dX0_record_9 (by decide) (fun c_9 => ?_) (fun c_9 => absurd (show nI 2 < nI 4 by decide) c_9)
  refine zj_aload_n (pc := 16) C dX0_record_16 rfl ?_
  refine gf_X0_1 (pc := 17) C dX0_record_17 0 rfl ?_
  refine zj_if_lt (pc := 20) 35 C dX0_record_20 (by decide) (fun c_20 => absurd c_20 (by decide)) (fun c_20 => ?_)
  refine zj_aload_n (pc := 23) C dX0_record_23 rfl ?_
  refine gf_X0_1 (pc := 24) C dX0_record_24 0 rfl ?_
  refine zj_aload_n (pc := 27) C dX0_record_27 rfl ?_
  refine gf_X0_0 (pc := 28) C dX0_record_28 0 rfl ?_
  refine zj_alen (pc := 31) (t0 := 2) C dX0_record_31 1 (by decide) rfl ?_
  refine zj_icmp_lt (pc := 32) 36 C dX0_record_32 (by decide) (fun c_32 => ?_) (fun c_32 => absurd (show nI 2 < nI 4 by decide) c_32)
  refine zj_aload_n (pc := 36) C dX0_record_36 rfl ?_
  refine gf_X0_0 (pc := 37) C dX0_record_37 0 rfl ?_
  refine zj_aload_n (pc := 40) C dX0_record_40 rfl ?_
  refine gf_X0_1 (pc := 41) C dX0_record_41 0 rfl ?_
  refine zj_aald (pc := 44) (2) C dX0_record_44 1 rfl rfl (by decide) (by decide) (v := .ref (q 2 0)) rfl ?_
  refine zj_astore_n (pc := 45) C dX0_record_45 (Nat.le_of_ble_eq_true rfl) ?_
  refine zj_aload_n (pc := 46) C dX0_record_46 rfl ?_
  refine zj_ifnull (pc := 47) C dX0_record_47 ?_
  refine zj_aload_n (pc := 50) C dX0_record_50 rfl ?_
  refine zj_aload_n (pc := 51) C dX0_record_51 rfl ?_
  refine zj_callF2n (pc := 52) C kv_X0_25 (m_X1_copyFrom) dX0_record_52 4 6 rfl rfl rfl rfl rfl rfl rfl rfl rfl ⟨0, rfl⟩ rfl rfl ?_
  refine zj_aload_n (pc := 55) C dX0_record_55 rfl ?_
  refine zj_dup (pc := 56) C dX0_record_56 rfl ?_
  refine gf_X0_1 (pc := 57) C dX0_record_57 0 rfl ?_
  refine zj_iconst (pc := 60) (v := 1) C dX0_record_60 (by decide) ?_
  refine zj_iadd (pc := 61) C dX0_record_61 ?_
  refine pf_X0_1 (pc := 62) C dX0_record_62 0 rfl ?_
  refine zj_vretF C hr hlocks dX0_record_65 ?_
  exact rfl
set_option maxRecDepth 100000 in
set_option maxHeartbeats 4000000 in
theorem m_X0_record3 {l : Launch} {G : GG} {a b : Nat → Nat} {q : Nat → Nat → Nat} {P : Nat → PC} {X : PC} : zX l G yX0_record cX0_record 3 none 3 68 0 0 [.ref (a 0), .ref (b 0)] (hist G a q P 3 ++ plan G b X) (zF none (hist G a q (updP P 3 X) 4 ++ plan G b X)) := by
  refine zj_startF RX0 (by decide +kernel) rfl rfl rfl (bs := [[((a 0), .inr (0, [.ref (a 1), .int (nI 3)]))], [((a 1), .inl (G.2 2, 4, .inr (.inr (.inr (.inr (pl4 q))))))], plan G (q 0) (P 0), plan G (q 1) (P 1), plan G (q 2) (P 2), plan G (q 3) (P 3), plan G b X]) rfl (lo := [some (.ref (a 0)), some (.ref (b 0)), none]) rfl ?_
  intro p0 e0 s0 m0 args0 below0 meth0 c0 A0 C hr hlocks
  refine zj_aload_n (pc := 0) C dX0_record_0 rfl ?_
  refine gf_X0_1 (pc := 1) C dX0_record_1 0 rfl ?_
  refine zj_aload_n (pc := 4) C dX0_record_4 rfl ?_
  refine gf_X0_0 (pc := 5) C dX0_record_5 0 rfl ?_
  refine zj_alen (pc := 8) (t0 := 2) C dX0_record_8 1 (by decide) rfl ?_
  refine zj_icmp_lt (pc := 9) 16 C dX0_record_9 (by decide) (fun c_9 => ?_) (fun c_9 => absurd (show nI 3 < nI 4 by decide) c_9)
  refine zj_aload_n (pc := 16) C dX0_record_16 rfl ?_
  refine gf_X0_1 (pc := 17) C dX0_record_17 0 rfl ?_
  refine zj_if_lt (pc := 20) 35 C dX0_record_20 (by decide) (fun c_20 => absurd c_20 (by decide)) (fun c_20 => ?_)
  refine zj_aload_n (pc := 23) C dX0_record_23 rfl ?_
  refine gf_X0_1 (pc := 24) C dX0_record_24 0 rfl ?_
  refine zj_aload_n (pc := 27) C dX0_record_27 rfl ?_
  refine gf_X0_0 (pc := 28) C dX0_record_28 0 rfl ?_
  refine zj_alen (pc := 31) (t0 := 2) C dX0_record_31 1 (by decide) rfl ?_
  refine zj_icmp_lt (pc := 32) 36 C dX0_record_32 (by decide) (fun c_32 => ?_) (fun c_32 => absurd (show nI 3 < nI 4 by decide) c_32)
  refine zj_aload_n (pc := 36) C dX0_record_36 rfl ?_
  refine gf_X0_0 (pc := 37) C dX0_record_37 0 rfl ?_
  refine zj_aload_n (pc := 40) C dX0_record_40 rfl ?_
  refine gf_X0_1 (pc := 41) C dX0_record_41 0 rfl ?_
  refine zj_aald (pc := 44) (3) C dX0_record_44 1 rfl rfl (by decide) (by decide) (v := .ref (q 3 0)) rfl ?_
  refine zj_astore_n (pc := 45) C dX0_record_45 (Nat.le_of_ble_eq_true rfl) ?_
  refine zj_aload_n (pc := 46) C dX0_record_46 rfl ?_
  refine zj_ifnull (pc := 47) C dX0_record_47 ?_
  refine zj_aload_n (pc := 50) C dX0_record_50 rfl ?_
  refine zj_aload_n (pc := 51) C dX0_record_51 rfl ?_
  refine zj_callF2n (pc := 52) C kv_X0_25 (m_X1_copyFrom) dX0_record_52 5 6 rfl rfl rfl rfl rfl rfl rfl rfl rfl ⟨0, rfl⟩ rfl rfl ?_
  refine zj_aload_n (pc := 55) C dX0_record_55 rfl ?_
  refine zj_dup (pc := 56) C dX0_record_56 rfl ?_
  refine gf_X0_1 (pc := 57) C dX0_record_57 0 rfl ?_
  refine zj_iconst (pc := 60) (v := 1) C dX0_record_60 (by decide) ?_
  refine zj_iadd (pc := 61) C dX0_record_61 ?_
  refine pf_X0_1 (pc := 62) C dX0_record_62 0 rfl ?_
  refine zj_vretF C hr hlocks dX0_record_65 ?_
  exact rfl
set_option maxRecDepth 100000 in
set_option maxHeartbeats 4000000 in
theorem m_X0_record4 {l : Launch} {G : GG} {a b : Nat → Nat} {q : Nat → Nat → Nat} {P : Nat → PC} {X : PC} : zX l G yX0_record cX0_record 3 none 3 68 0 0 [.ref (a 0), .ref (b 0)] (hist G a q P 4 ++ plan G b X) (zF none (hist G a (rot q) (updP (rot P) 3 X) 4 ++ plan G b X)) := by
  refine zj_startF RX0 (by decide +kernel) rfl rfl rfl (bs := [[((a 0), .inr (0, [.ref (a 1), .int (nI 4)]))], [((a 1), .inl (G.2 2, 4, .inr (.inr (.inr (.inr (pl4 q))))))], plan G (q 0) (P 0), plan G (q 1) (P 1), plan G (q 2) (P 2), plan G (q 3) (P 3), plan G b X]) rfl (lo := [some (.ref (a 0)), some (.ref (b 0)), none]) rfl ?_
  intro p0 e0 s0 m0 args0 below0 meth0 c0 A0 C hr hlocks
  refine zj_aload_n (pc := 0) C dX0_record_0 rfl ?_
  refine gf_X0_1 (pc := 1) C dX0_record_1 0 rfl ?_
  refine zj_aload_n (pc := 4) C dX0_record_4 rfl ?_
  refine gf_X0_0 (pc := 5) C dX0_record_5 0 rfl ?_
  refine zj_alen (pc := 8) (t0 := 2) C dX0_record_8 1 (by decide) rfl ?_
  refine zj_icmp_lt (pc := 9) 16 C dX0_record_9 (by decide) (fun c_9 => absurd c_9 (by decide)) (fun c_9 => ?_)
  refine zj_aload_n (pc := 12) C dX0_record_12 rfl ?_
  refine zj_callA (pc := 13) C kv_X0_22 (m_X0_dropOldest) dX0_record_13 [0, 1, 2, 3, 4, 5] [6] rfl rfl rfl rfl rfl rfl rfl rfl ⟨0, rfl⟩ rfl rfl (fun v w1 hq => ?_)
  obtain ⟨rfl, rfl⟩ := hq
  refine zj_blk (bs' := [[((a 0), .inr (0, [.ref (a 1), .int (nI 3)]))], [((a 1), .inl (G.2 2, 4, .inr (.inr (.inr (.inr (pl4 (rot q)))))))], plan G (rot q 0) (rot P 0), plan G (rot q 1) (rot P 1), plan G (rot q 2) (rot P 2), plan G (rot q 3) (rot P 3), plan G b X]) rfl ?_
  refine zj_aload_n (pc := 16) C dX0_record_16 rfl ?_
  refine gf_X0_1 (pc := 17) C dX0_record_17 0 rfl ?_
  refine zj_if_lt (pc := 20) 35 C dX0_record_20 (by decide) (fun c_20 => absurd c_20 (by decide)) (fun c_20 => ?_)
  refine zj_aload_n (pc := 23) C dX0_record_23 rfl ?_
  refine gf_X0_1 (pc := 24) C dX0_record_24 0 rfl ?_
  refine zj_aload_n (pc := 27) C dX0_record_27 rfl ?_
  refine gf_X0_0 (pc := 28) C dX0_record_28 0 rfl ?_
  refine zj_alen (pc := 31) (t0 := 2) C dX0_record_31 1 (by decide) rfl ?_
  refine zj_icmp_lt (pc := 32) 36 C dX0_record_32 (by decide) (fun c_32 => ?_) (fun c_32 => absurd (show nI 3 < nI 4 by decide) c_32)
  refine zj_aload_n (pc := 36) C dX0_record_36 rfl ?_
  refine gf_X0_0 (pc := 37) C dX0_record_37 0 rfl ?_
  refine zj_aload_n (pc := 40) C dX0_record_40 rfl ?_
  refine gf_X0_1 (pc := 41) C dX0_record_41 0 rfl ?_
  refine zj_aald (pc := 44) (3) C dX0_record_44 1 rfl rfl (by decide) (by decide) (v := .ref (rot q 3 0)) rfl ?_
  refine zj_astore_n (pc := 45) C dX0_record_45 (Nat.le_of_ble_eq_true rfl) ?_
  refine zj_aload_n (pc := 46) C dX0_record_46 rfl ?_
  refine zj_ifnull (pc := 47) C dX0_record_47 ?_
  refine zj_aload_n (pc := 50) C dX0_record_50 rfl ?_
  refine zj_aload_n (pc := 51) C dX0_record_51 rfl ?_
  refine zj_callF2n (pc := 52) C kv_X0_25 (m_X1_copyFrom) dX0_record_52 5 6 rfl rfl rfl rfl rfl rfl rfl rfl rfl ⟨0, rfl⟩ rfl rfl ?_
  refine zj_aload_n (pc := 55) C dX0_record_55 rfl ?_
  refine zj_dup (pc := 56) C dX0_record_56 rfl ?_
  refine gf_X0_1 (pc := 57) C dX0_record_57 0 rfl ?_
  refine zj_iconst (pc := 60) (v := 1) C dX0_record_60 (by decide) ?_
  refine zj_iadd (pc := 61) C dX0_record_61 ?_
  refine pf_X0_1 (pc := 62) C dX0_record_62 0 rfl ?_
  refine zj_vretF C hr hlocks dX0_record_65 ?_
  exact rfl
set_option maxRecDepth 100000 in
set_option maxHeartbeats 4000000 in
theorem m_X0_moveLatestTo0 {l : Launch} {G : GG} {a b : Nat → Nat} {q : Nat → Nat → Nat} {P : Nat → PC} {X : PC} : zX l G yX0_moveLatestTo cX0_moveLatestTo 3 (some .boolean) 3 68 0 0 [.ref (a 0), .ref (b 0)] (hist G a q P 0 ++ plan G b X) (zF (some (.int (bI (false)))) (hist G a q P 0 ++ plan G b X)) := by
  refine zj_startF RX0 (by decide +kernel) rfl rfl rfl (bs := [[((a 0), .inr (0, [.ref (a 1), .int (nI 0)]))], [((a 1), .inl (G.2 2, 4, .inr (.inr (.inr (.inr (pl4 q))))))], plan G (q 0) (P 0), plan G (q 1) (P 1), plan G (q 2) (P 2), plan G (q 3) (P 3), plan G b X]) rfl (lo := [some (.ref (a 0)), some (.ref (b 0)), none]) rfl ?_
  intro p0 e0 s0 m0 args0 below0 meth0 c0 A0 C hr hlocks
  refine zj_aload_n (pc := 0) C dX0_moveLatestTo_0 rfl ?_
  refine gf_X0_1 (pc := 1) C dX0_moveLatestTo_1 0 rfl ?_
  refine zj_iconst (pc := 4) (v := 1) C dX0_moveLatestTo_4 (by decide) ?_
  refine zj_icmp_lt (pc := 5) 20 C dX0_moveLatestTo_5 (by decide) (fun c_5 => ?_) (fun c_5 => absurd (show nI 0 < 1 by decide) c_5)
  refine zj_iconst (pc := 20) (v := 0) C dX0_moveLatestTo_20 (by decide) ?_
  refine zj_zretF C hr hlocks dX0_moveLatestTo_21 ?_ rfl
  exact rfl
set_option maxRecDepth 100000 in
set_option maxHeartbeats 4000000 in
theorem m_X0_moveLatestTo1 {l : Launch} {G : GG} {a b : Nat → Nat} {q : Nat → Nat → Nat} {P : Nat → PC} {X : PC} : zX l G yX0_moveLatestTo cX0_moveLatestTo 3 (some .boolean) 3 68 0 0 [.ref (a 0), .ref (b 0)] (hist G a q P 1 ++ plan G b X) (zF (some (.int (bI (true)))) (hist G a q P 0 ++ plan G b (P 0))) := by
  refine zj_startF RX0 (by decide +kernel) rfl rfl rfl (bs := [[((a 0), .inr (0, [.ref (a 1), .int (nI 1)]))], [((a 1), .inl (G.2 2, 4, .inr (.inr (.inr (.inr (pl4 q))))))], plan G (q 0) (P 0), plan G (q 1) (P 1), plan G (q 2) (P 2), plan G (q 3) (P 3), plan G b X]) rfl (lo := [some (.ref (a 0)), some (.ref (b 0)), none]) rfl ?_
  intro p0 e0 s0 m0 args0 below0 meth0 c0 A0 C hr hlocks
  refine zj_aload_n (pc := 0) C dX0_moveLatestTo_0 rfl ?_
  refine gf_X0_1 (pc := 1) C dX0_moveLatestTo_1 0 rfl ?_
  refine zj_iconst (pc := 4) (v := 1) C dX0_moveLatestTo_4 (by decide) ?_
  refine zj_icmp_lt (pc := 5) 20 C dX0_moveLatestTo_5 (by decide) (fun c_5 => absurd c_5 (by decide)) (fun c_5 => ?_)
  refine zj_aload_n (pc := 8) C dX0_moveLatestTo_8 rfl ?_
  refine gf_X0_1 (pc := 9) C dX0_moveLatestTo_9 0 rfl ?_
  refine zj_aload_n (pc := 12) C dX0_moveLatestTo_12 rfl ?_
  refine gf_X0_0 (pc := 13) C dX0_moveLatestTo_13 0 rfl ?_
  refine zj_alen (pc := 16) (t0 := 2) C dX0_moveLatestTo_16 1 (by decide) rfl ?_
  refine zj_icmp_le (pc := 17) 22 C dX0_moveLatestTo_17 (by decide) (fun c_17 => ?_) (fun c_17 => absurd (show nI 1 ≤ nI 4 by decide) c_17)
  refine zj_aload_n (pc := 22) C dX0_moveLatestTo_22 rfl ?_
  refine gf_X0_0 (pc := 23) C dX0_moveLatestTo_23 0 rfl ?_
  refine zj_aload_n (pc := 26) C dX0_moveLatestTo_26 rfl ?_
  refine gf_X0_1 (pc := 27) C dX0_moveLatestTo_27 0 rfl ?_
  refine zj_iconst (pc := 30) (v := 1) C dX0_moveLatestTo_30 (by decide) ?_
  refine zj_isub (pc := 31) C dX0_moveLatestTo_31 ?_
  refine zj_aald (pc := 32) (0) C dX0_moveLatestTo_32 1 rfl rfl (by decide) (by decide) (v := .ref (q 0 0)) rfl ?_
  refine zj_astore_n (pc := 33) C dX0_moveLatestTo_33 (Nat.le_of_ble_eq_true rfl) ?_
  refine zj_aload_n (pc := 34) C dX0_moveLatestTo_34 rfl ?_
  refine zj_ifnonnull (pc := 35) 40 C dX0_moveLatestTo_35 (by decide) ?_
  refine zj_aload_n (pc := 40) C dX0_moveLatestTo_40 rfl ?_
  refine zj_aload_n (pc := 41) C dX0_moveLatestTo_41 rfl ?_
  refine zj_callF2n (pc := 42) C kv_X0_25 (m_X1_copyFrom) dX0_moveLatestTo_42 6 2 rfl rfl rfl rfl rfl rfl rfl rfl rfl ⟨0, rfl⟩ rfl rfl ?_
  refine zj_aload_n (pc := 45) C dX0_moveLatestTo_45 rfl ?_
  refine zj_dup (pc := 46) C dX0_moveLatestTo_46 rfl ?_
  refine gf_X0_1 (pc := 47) C dX0_moveLatestTo_47 0 rfl ?_
  refine zj_iconst (pc := 50) (v := 1) C dX0_moveLatestTo_50 (by decide) ?_
  refine zj_isub (pc := 51) C dX0_moveLatestTo_51 ?_
  refine pf_X0_1 (pc := 52) C dX0_moveLatestTo_52 0 rfl ?_
  refine zj_iconst (pc := 55) (v := 1) C dX0_moveLatestTo_55 (by decide) ?_
  refine zj_zretF C hr hlocks dX0_moveLatestTo_56 ?_ rfl
  exact rfl
set_option maxRecDepth 100000 in
set_option maxHeartbeats 4000000 in
theorem m_X0_moveLatestTo2 {l : Launch} {G : GG} {a b : Nat → Nat} {q : Nat → Nat → Nat} {P : Nat → PC} {X : PC} : zX l G yX0_moveLatestTo cX0_moveLatestTo 3 (some .boolean) 3 68 0 0 [.ref (a 0), .ref (b 0)] (hist G a q P 2 ++ plan G b X) (zF (some (.int (bI (true)))) (hist G a q P 1 ++ plan G b (P 1))) := by
  refine zj_startF RX0 (by decide +kernel) rfl rfl rfl (bs := [[((a 0), .inr (0, [.ref (a 1), .int (nI 2)]))], [((a 1), .inl (G.2 2, 4, .inr (.inr (.inr (.inr (pl4 q))))))], plan G (q 0) (P 0), plan G (q 1) (P 1), plan G (q 2) (P 2), plan G (q 3) (P 3), plan G b X]) rfl (lo := [some (.ref (a 0)), some (.ref (b 0)), none]) rfl ?_
  intro p0 e0 s0 m0 args0 below0 meth0 c0 A0 C hr hlocks
  refine zj_aload_n (pc := 0) C dX0_moveLatestTo_0 rfl ?_
  refine gf_X0_1 (pc := 1) C dX0_moveLatestTo_1 0 rfl ?_
  refine zj_iconst (pc := 4) (v := 1) C dX0_moveLatestTo_4 (by decide) ?_
  refine zj_icmp_lt (pc := 5) 20 C dX0_moveLatestTo_5 (by decide) (fun c_5 => absurd c_5 (by decide)) (fun c_5 => ?_)
  refine zj_aload_n (pc := 8) C dX0_moveLatestTo_8 rfl ?_
  refine gf_X0_1 (pc := 9) C dX0_moveLatestTo_9 0 rfl ?_
  refine zj_aload_n (pc := 12) C dX0_moveLatestTo_12 rfl ?_
  refine gf_X0_0 (pc := 13) C dX0_moveLatestTo_13 0 rfl ?_
  refine zj_alen (pc := 16) (t0 := 2) C dX0_moveLatestTo_16 1 (by decide) rfl ?_
  refine zj_icmp_le (pc := 17) 22 C dX0_moveLatestTo_17 (by decide) (fun c_17 => ?_) (fun c_17 => absurd (show nI 2 ≤ nI 4 by decide) c_17)
  refine zj_aload_n (pc := 22) C dX0_moveLatestTo_22 rfl ?_
  refine gf_X0_0 (pc := 23) C dX0_moveLatestTo_23 0 rfl ?_
  refine zj_aload_n (pc := 26) C dX0_moveLatestTo_26 rfl ?_
  refine gf_X0_1 (pc := 27) C dX0_moveLatestTo_27 0 rfl ?_
  refine zj_iconst (pc := 30) (v := 1) C dX0_moveLatestTo_30 (by decide) ?_
  refine zj_isub (pc := 31) C dX0_moveLatestTo_31 ?_
  refine zj_aald (pc := 32) (1) C dX0_moveLatestTo_32 1 rfl rfl (by decide) (by decide) (v := .ref (q 1 0)) rfl ?_
  refine zj_astore_n (pc := 33) C dX0_moveLatestTo_33 (Nat.le_of_ble_eq_true rfl) ?_
  refine zj_aload_n (pc := 34) C dX0_moveLatestTo_34 rfl ?_
  refine zj_ifnonnull (pc := 35) 40 C dX0_moveLatestTo_35 (by decide) ?_
  refine zj_aload_n (pc := 40) C dX0_moveLatestTo_40 rfl ?_
  refine zj_aload_n (pc := 41) C dX0_moveLatestTo_41 rfl ?_
  refine zj_callF2n (pc := 42) C kv_X0_25 (m_X1_copyFrom) dX0_moveLatestTo_42 6 3 rfl rfl rfl rfl rfl rfl rfl rfl rfl ⟨0, rfl⟩ rfl rfl ?_
  refine zj_aload_n (pc := 45) C dX0_moveLatestTo_45 rfl ?_
  refine zj_dup (pc := 46) C dX0_moveLatestTo_46 rfl ?_
  refine gf_X0_1 (pc := 47) C dX0_moveLatestTo_47 0 rfl ?_
  refine zj_iconst (pc := 50) (v := 1) C dX0_moveLatestTo_50 (by decide) ?_
  refine zj_isub (pc := 51) C dX0_moveLatestTo_51 ?_
  refine pf_X0_1 (pc := 52) C dX0_moveLatestTo_52 0 rfl ?_
  refine zj_iconst (pc := 55) (v := 1) C dX0_moveLatestTo_55 (by decide) ?_
  refine zj_zretF C hr hlocks dX0_moveLatestTo_56 ?_ rfl
  exact rfl
set_option maxRecDepth 100000 in
set_option maxHeartbeats 4000000 in
theorem m_X0_moveLatestTo3 {l : Launch} {G : GG} {a b : Nat → Nat} {q : Nat → Nat → Nat} {P : Nat → PC} {X : PC} : zX l G yX0_moveLatestTo cX0_moveLatestTo 3 (some .boolean) 3 68 0 0 [.ref (a 0), .ref (b 0)] (hist G a q P 3 ++ plan G b X) (zF (some (.int (bI (true)))) (hist G a q P 2 ++ plan G b (P 2))) := by
  refine zj_startF RX0 (by decide +kernel) rfl rfl rfl (bs := [[((a 0), .inr (0, [.ref (a 1), .int (nI 3)]))], [((a 1), .inl (G.2 2, 4, .inr (.inr (.inr (.inr (pl4 q))))))], plan G (q 0) (P 0), plan G (q 1) (P 1), plan G (q 2) (P 2), plan G (q 3) (P 3), plan G b X]) rfl (lo := [some (.ref (a 0)), some (.ref (b 0)), none]) rfl ?_
  intro p0 e0 s0 m0 args0 below0 meth0 c0 A0 C hr hlocks
  refine zj_aload_n (pc := 0) C dX0_moveLatestTo_0 rfl ?_
  refine gf_X0_1 (pc := 1) C dX0_moveLatestTo_1 0 rfl ?_
  refine zj_iconst (pc := 4) (v := 1) C dX0_moveLatestTo_4 (by decide) ?_
  refine zj_icmp_lt (pc := 5) 20 C dX0_moveLatestTo_5 (by decide) (fun c_5 => absurd c_5 (by decide)) (fun c_5 => ?_)
  refine zj_aload_n (pc := 8) C dX0_moveLatestTo_8 rfl ?_
  refine gf_X0_1 (pc := 9) C dX0_moveLatestTo_9 0 rfl ?_
  refine zj_aload_n (pc := 12) C dX0_moveLatestTo_12 rfl ?_
  refine gf_X0_0 (pc := 13) C dX0_moveLatestTo_13 0 rfl ?_
  refine zj_alen (pc := 16) (t0 := 2) C dX0_moveLatestTo_16 1 (by decide) rfl ?_
  refine zj_icmp_le (pc := 17) 22 C dX0_moveLatestTo_17 (by decide) (fun c_17 => ?_) (fun c_17 => absurd (show nI 3 ≤ nI 4 by decide) c_17)
  refine zj_aload_n (pc := 22) C dX0_moveLatestTo_22 rfl ?_
  refine gf_X0_0 (pc := 23) C dX0_moveLatestTo_23 0 rfl ?_
  refine zj_aload_n (pc := 26) C dX0_moveLatestTo_26 rfl ?_
  refine gf_X0_1 (pc := 27) C dX0_moveLatestTo_27 0 rfl ?_
  refine zj_iconst (pc := 30) (v := 1) C dX0_moveLatestTo_30 (by decide) ?_
  refine zj_isub (pc := 31) C dX0_moveLatestTo_31 ?_
  refine zj_aald (pc := 32) (2) C dX0_moveLatestTo_32 1 rfl rfl (by decide) (by decide) (v := .ref (q 2 0)) rfl ?_
  refine zj_astore_n (pc := 33) C dX0_moveLatestTo_33 (Nat.le_of_ble_eq_true rfl) ?_
  refine zj_aload_n (pc := 34) C dX0_moveLatestTo_34 rfl ?_
  refine zj_ifnonnull (pc := 35) 40 C dX0_moveLatestTo_35 (by decide) ?_
  refine zj_aload_n (pc := 40) C dX0_moveLatestTo_40 rfl ?_
  refine zj_aload_n (pc := 41) C dX0_moveLatestTo_41 rfl ?_
  refine zj_callF2n (pc := 42) C kv_X0_25 (m_X1_copyFrom) dX0_moveLatestTo_42 6 4 rfl rfl rfl rfl rfl rfl rfl rfl rfl ⟨0, rfl⟩ rfl rfl ?_
  refine zj_aload_n (pc := 45) C dX0_moveLatestTo_45 rfl ?_
  refine zj_dup (pc := 46) C dX0_moveLatestTo_46 rfl ?_
  refine gf_X0_1 (pc := 47) C dX0_moveLatestTo_47 0 rfl ?_
  refine zj_iconst (pc := 50) (v := 1) C dX0_moveLatestTo_50 (by decide) ?_
  refine zj_isub (pc := 51) C dX0_moveLatestTo_51 ?_
  refine pf_X0_1 (pc := 52) C dX0_moveLatestTo_52 0 rfl ?_
  refine zj_iconst (pc := 55) (v := 1) C dX0_moveLatestTo_55 (by decide) ?_
  refine zj_zretF C hr hlocks dX0_moveLatestTo_56 ?_ rfl
  exact rfl
set_option maxRecDepth 100000 in
set_option maxHeartbeats 4000000 in
theorem m_X0_moveLatestTo4 {l : Launch} {G : GG} {a b : Nat → Nat} {q : Nat → Nat → Nat} {P : Nat → PC} {X : PC} : zX l G yX0_moveLatestTo cX0_moveLatestTo 3 (some .boolean) 3 68 0 0 [.ref (a 0), .ref (b 0)] (hist G a q P 4 ++ plan G b X) (zF (some (.int (bI (true)))) (hist G a q P 3 ++ plan G b (P 3))) := by
  refine zj_startF RX0 (by decide +kernel) rfl rfl rfl (bs := [[((a 0), .inr (0, [.ref (a 1), .int (nI 4)]))], [((a 1), .inl (G.2 2, 4, .inr (.inr (.inr (.inr (pl4 q))))))], plan G (q 0) (P 0), plan G (q 1) (P 1), plan G (q 2) (P 2), plan G (q 3) (P 3), plan G b X]) rfl (lo := [some (.ref (a 0)), some (.ref (b 0)), none]) rfl ?_
  intro p0 e0 s0 m0 args0 below0 meth0 c0 A0 C hr hlocks
  refine zj_aload_n (pc := 0) C dX0_moveLatestTo_0 rfl ?_
  refine gf_X0_1 (pc := 1) C dX0_moveLatestTo_1 0 rfl ?_
  refine zj_iconst (pc := 4) (v := 1) C dX0_moveLatestTo_4 (by decide) ?_
  refine zj_icmp_lt (pc := 5) 20 C dX0_moveLatestTo_5 (by decide) (fun c_5 => absurd c_5 (by decide)) (fun c_5 => ?_)
  refine zj_aload_n (pc := 8) C dX0_moveLatestTo_8 rfl ?_
  refine gf_X0_1 (pc := 9) C dX0_moveLatestTo_9 0 rfl ?_
  refine zj_aload_n (pc := 12) C dX0_moveLatestTo_12 rfl ?_
  refine gf_X0_0 (pc := 13) C dX0_moveLatestTo_13 0 rfl ?_
  refine zj_alen (pc := 16) (t0 := 2) C dX0_moveLatestTo_16 1 (by decide) rfl ?_
  refine zj_icmp_le (pc := 17) 22 C dX0_moveLatestTo_17 (by decide) (fun c_17 => ?_) (fun c_17 => absurd (show nI 4 ≤ nI 4 by decide) c_17)
  refine zj_aload_n (pc := 22) C dX0_moveLatestTo_22 rfl ?_
  refine gf_X0_0 (pc := 23) C dX0_moveLatestTo_23 0 rfl ?_
  refine zj_aload_n (pc := 26) C dX0_moveLatestTo_26 rfl ?_
  refine gf_X0_1 (pc := 27) C dX0_moveLatestTo_27 0 rfl ?_
  refine zj_iconst (pc := 30) (v := 1) C dX0_moveLatestTo_30 (by decide) ?_
  refine zj_isub (pc := 31) C dX0_moveLatestTo_31 ?_
  refine zj_aald (pc := 32) (3) C dX0_moveLatestTo_32 1 rfl rfl (by decide) (by decide) (v := .ref (q 3 0)) rfl ?_
  refine zj_astore_n (pc := 33) C dX0_moveLatestTo_33 (Nat.le_of_ble_eq_true rfl) ?_
  refine zj_aload_n (pc := 34) C dX0_moveLatestTo_34 rfl ?_
  refine zj_ifnonnull (pc := 35) 40 C dX0_moveLatestTo_35 (by decide) ?_
  refine zj_aload_n (pc := 40) C dX0_moveLatestTo_40 rfl ?_
  refine zj_aload_n (pc := 41) C dX0_moveLatestTo_41 rfl ?_
  refine zj_callF2n (pc := 42) C kv_X0_25 (m_X1_copyFrom) dX0_moveLatestTo_42 6 5 rfl rfl rfl rfl rfl rfl rfl rfl rfl ⟨0, rfl⟩ rfl rfl ?_
  refine zj_aload_n (pc := 45) C dX0_moveLatestTo_45 rfl ?_
  refine zj_dup (pc := 46) C dX0_moveLatestTo_46 rfl ?_
  refine gf_X0_1 (pc := 47) C dX0_moveLatestTo_47 0 rfl ?_
  refine zj_iconst (pc := 50) (v := 1) C dX0_moveLatestTo_50 (by decide) ?_
  refine zj_isub (pc := 51) C dX0_moveLatestTo_51 ?_
  refine pf_X0_1 (pc := 52) C dX0_moveLatestTo_52 0 rfl ?_
  refine zj_iconst (pc := 55) (v := 1) C dX0_moveLatestTo_55 (by decide) ?_
  refine zj_zretF C hr hlocks dX0_moveLatestTo_56 ?_ rfl
  exact rfl
/-- what is kept of a state: the history behind it -/
def hQ (q : Nat → Nat → Nat) (n : Nat) : Nat → Nat → Nat := if n < 4 then q else rot q
def hP' (P : Nat → PC) (n : Nat) (X : PC) : Nat → PC := if n < 4 then updP P n X else updP (rot P) 3 X
def hN (n : Nat) : Nat := if n < 4 then n + 1 else 4
theorem m_X0_record {l : Launch} {G : GG} {a b : Nat → Nat} {q : Nat → Nat → Nat} {P : Nat → PC} {X : PC} {n : Nat} (hn : n ≤ 4) : zX l G yX0_record cX0_record 3 none 3 68 0 0 [.ref (a 0), .ref (b 0)] (hist G a q P n ++ plan G b X) (zF none (hist G a (hQ q n) (hP' P n X) (hN n) ++ plan G b X)) := by
  rcases (show n = 0 ∨ n = 1 ∨ n = 2 ∨ n = 3 ∨ n = 4 by omega) with rfl | rfl | rfl | rfl | rfl
  · exact m_X0_record0
  · exact m_X0_record1
  · exact m_X0_record2
  · exact m_X0_record3
  · exact m_X0_record4
theorem m_X0_moveLatestTo {l : Launch} {G : GG} {a b : Nat → Nat} {q : Nat → Nat → Nat} {P : Nat → PC} {X : PC} {n : Nat} (hn : n ≤ 4) : zX l G yX0_moveLatestTo cX0_moveLatestTo 3 (some .boolean) 3 68 0 0 [.ref (a 0), .ref (b 0)] (hist G a q P n ++ plan G b X) (zF (some (.int (bI (!(n == 0))))) (hist G a q P (n - 1) ++ plan G b (if n = 0 then X else P (n - 1)))) := by
  rcases (show n = 0 ∨ n = 1 ∨ n = 2 ∨ n = 3 ∨ n = 4 by omega) with rfl | rfl | rfl | rfl | rfl
  · exact m_X0_moveLatestTo0
  · exact m_X0_moveLatestTo1
  · exact m_X0_moveLatestTo2
  · exact m_X0_moveLatestTo3
  · exact m_X0_moveLatestTo4
