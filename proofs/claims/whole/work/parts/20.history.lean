/-! THE HISTORY: four plans, in the order of their age -/
def pl4 (q : Nat → Nat → Nat) : Nat → Option Nat := fun k => if k < 4 then some (q k 0) else none
def histB (G : GG) (a : Nat → Nat) (q : Nat → Nat → Nat) (P : Nat → PC) (n : Nat) : List va_W := [[(a 0, .inr (0, [.ref (a 1), .int (nI n)]))], [(a 1, .inl (G.2 2, 4, .inr (.inr (.inr (.inr (pl4 q))))))], plan G (q 0) (P 0), plan G (q 1) (P 1), plan G (q 2) (P 2), plan G (q 3) (P 3)]
def hist (G : GG) (a : Nat → Nat) (q : Nat → Nat → Nat) (P : Nat → PC) (n : Nat) : va_W := (histB G a q P n).flatten
def rot {α : Type} (f : Nat → α) : Nat → α := fun k => if k = 3 then f 0 else f (k + 1)
def updP (P : Nat → PC) (k : Nat) (X : PC) : Nat → PC := fun j => if j = k then X else P j
def arI (q : Nat → Nat → Nat) (k : Nat) : Nat → Option Nat := fun j => if j + 1 < k then some (q (j + 1) 0) else if j < 4 then some (q j 0) else none
theorem arI_1 {q : Nat → Nat → Nat} : arI q 1 = pl4 q := by
  funext j
  unfold arI pl4
  rw [if_neg (by omega)]
theorem arI_at {q : Nat → Nat → Nat} {k : Nat} (h : k < 4) : arI q k k = some (q k 0) := by
  unfold arI
  rw [if_neg (by omega), if_pos h]
theorem arI_s {q : Nat → Nat → Nat} {k : Nat} (h1 : 1 ≤ k) : va_up (arI q k) (k - 1) (some (q k 0)) = arI q (k + 1) := by
  funext j
  unfold va_up arI
  by_cases hj : j = k - 1
  · subst hj
    rw [if_pos rfl, if_pos (by omega), show k - 1 + 1 = k by omega]
  · rw [if_neg hj]
    by_cases h2 : j + 1 < k
    · rw [if_pos h2, if_pos (by omega)]
    · rw [if_neg h2, if_neg (show ¬ j + 1 < k + 1 by omega)]
theorem arI_4 {q : Nat → Nat → Nat} : va_up (arI q 4) 3 (some (q 0 0)) = pl4 (rot q) := by
  funext j
  unfold va_up arI pl4 rot
  by_cases h3 : j = 3
  · subst h3; rfl
  · rw [if_neg h3]
    by_cases h2 : j + 1 < 4
    · rw [if_pos h2, if_pos (by omega), if_neg h3]
    · rw [if_neg h2, if_neg (by omega), if_neg (by omega)]
theorem plan_0 {G : GG} {a : Nat → Nat} {P : PC} : (a 0, .inr (1, [.ref (a 1), .ref (a 3), .ref (a 5)])) ∈ plan G a P := List.mem_cons_self
theorem hist_mem {G : GG} {q : Nat → Nat → Nat} {P : Nat → PC} {b0 b1 : va_W} {k : Nat} (h : k < 4) : (q k 0, .inr (1, [.ref (q k 1), .ref (q k 3), .ref (q k 5)])) ∈ ([b0, b1, plan G (q 0) (P 0), plan G (q 1) (P 1), plan G (q 2) (P 2), plan G (q 3) (P 3)] : List va_W).flatten := by
  have h0 : plan G (q k) (P k) ∈ ([b0, b1, plan G (q 0) (P 0), plan G (q 1) (P 1), plan G (q 2) (P 2), plan G (q 3) (P 3)] : List va_W) := by
    match k, h with
    | 0, _ => simp
    | 1, _ => simp
    | 2, _ => simp
    | 3, _ => simp
  exact List.mem_flatten.mpr ⟨_, h0, plan_0⟩

set_option maxRecDepth 100000 in
set_option maxHeartbeats 4000000 in
theorem m_X0_size {l : Launch} {G : GG} {a : Nat → Nat} {q : Nat → Nat → Nat} {P : Nat → PC} {n : Nat} : zX l G yX0_size cX0_size 1 (some .int) 0 0 0 0 [.ref (a 0)] (hist G a q P n) (zF (some (.int (nI n))) (hist G a q P n)) := by
  refine zj_startF RX0 (by decide +kernel) rfl rfl rfl (bs := [[((a 0), .inr (0, [.ref (a 1), .int (nI n)]))], [((a 1), .inl (G.2 2, 4, .inr (.inr (.inr (.inr (pl4 q))))))], plan G (q 0) (P 0), plan G (q 1) (P 1), plan G (q 2) (P 2), plan G (q 3) (P 3)]) rfl (lo := [some (.ref (a 0))]) rfl ?_
  intro p0 e0 s0 m0 args0 below0 meth0 c0 A0 C hr hlocks
  refine zj_aload_n (pc := 0) C dX0_size_0 rfl ?_
  refine gf_X0_1 (pc := 1) C dX0_size_1 0 rfl ?_
  refine zj_iretF C hr hlocks dX0_size_4 ?_ rfl
  exact rfl
set_option maxRecDepth 100000 in
set_option maxHeartbeats 4000000 in
theorem m_X0_dropOldest {l : Launch} {G : GG} {a : Nat → Nat} {q : Nat → Nat → Nat} {P : Nat → PC} {n : Nat} : zX l G yX0_dropOldest cX0_dropOldest 3 none 0 0 0 0 [.ref (a 0)] (hist G a q P n) (zF none (hist G a (rot q) (rot P) 3)) := by
  refine zj_startF RX0 (by decide +kernel) rfl rfl rfl (bs := [[((a 0), .inr (0, [.ref (a 1), .int (nI n)]))], [((a 1), .inl (G.2 2, 4, .inr (.inr (.inr (.inr (pl4 q))))))], plan G (q 0) (P 0), plan G (q 1) (P 1), plan G (q 2) (P 2), plan G (q 3) (P 3)]) rfl (lo := [some (.ref (a 0)), none, none]) rfl ?_
  intro p0 e0 s0 m0 args0 below0 meth0 c0 A0 C hr hlocks
  refine zj_aload_n (pc := 0) C dX0_dropOldest_0 rfl ?_
  refine gf_X0_0 (pc := 1) C dX0_dropOldest_1 0 rfl ?_
  refine zj_iconst (pc := 4) (v := 0) C dX0_dropOldest_4 (by decide) ?_
  refine zj_aald (pc := 5) (0) C dX0_dropOldest_5 1 rfl rfl (by decide) (by decide) (v := .ref (q 0 0)) rfl ?_
  refine zj_astore_n (pc := 6) C dX0_dropOldest_6 (Nat.le_of_ble_eq_true rfl) ?_
  refine zj_iconst (pc := 7) (v := 1) C dX0_dropOldest_7 (by decide) ?_
  refine zj_istore_n (pc := 8) C dX0_dropOldest_8 (Nat.le_of_ble_eq_true rfl) ?_
  refine zj_keep [true, true, true] ?_
  refine zj_blk (bs' := [[((a 0), .inr (0, [.ref (a 1), .int (nI n)]))], [((a 1), .inl (G.2 2, 4, .inr (.inr (.inr (.inr (arI q 1))))))], plan G (q 0) (P 0), plan G (q 1) (P 1), plan G (q 2) (P 2), plan G (q 3) (P 3)]) (by rw [arI_1]) ?_
  refine zj_loopW (σ := Nat) (fun x => 1 ≤ x ∧ x ≤ 4) (fun x => 4 - x) (fun x => [[((a 0), .inr (0, [.ref (a 1), .int (nI n)]))], [((a 1), .inl (G.2 2, 4, .inr (.inr (.inr (.inr (arI q x))))))], plan G (q 0) (P 0), plan G (q 1) (P 1), plan G (q 2) (P 2), plan G (q 3) (P 3)]) (fun x => [some (.ref (a 0)), some (.ref (q 0 0)), some (.int (nI x))]) ?_ 1 ⟨Nat.le_refl _, by decide⟩
  intro k hk ih
  obtain ⟨hk1, hk2⟩ := hk
  refine zj_iload_n (pc := 9) C dX0_dropOldest_9 rfl ?_
  refine zj_iconst (pc := 10) (v := 4) C dX0_dropOldest_10 (by decide) ?_
  refine zj_icmp_ge (pc := 11) 34 C dX0_dropOldest_11 (by decide) (fun c_11 => ?_) (fun c_11 => ?_)
  · have hk4 : k = 4 := Nat.le_antisymm hk2 (zle c_11 (by omega))
    refine zj_aload_n (pc := 34) C dX0_dropOldest_34 rfl ?_
    refine gf_X0_0 (pc := 35) C dX0_dropOldest_35 0 rfl ?_
    refine zj_iconst (pc := 38) (v := 3) C dX0_dropOldest_38 (by decide) ?_
    refine zj_aload_n (pc := 39) C dX0_dropOldest_39 rfl ?_
    refine zj_aast (pc := 40) (3) C dX0_dropOldest_40 1 0 rfl (⟨_, hist_mem (k := 0) (by decide), rfl⟩) rfl (by decide) (by decide) ?_
    refine zj_aload_n (pc := 41) C dX0_dropOldest_41 rfl ?_
    refine zj_iconst (pc := 42) (v := 3) C dX0_dropOldest_42 (by decide) ?_
    refine pf_X0_1 (pc := 43) C dX0_dropOldest_43 0 rfl ?_
    have e9 : va_up (arI q k) 3 (some (q 0 0)) = pl4 (rot q) := by rw [hk4]; exact arI_4
    refine zj_blk (bs' := [[((a 0), .inr (0, [.ref (a 1), .int (nI 3)]))], [((a 1), .inl (G.2 2, 4, .inr (.inr (.inr (.inr (pl4 (rot q)))))))], plan G (q 0) (P 0), plan G (q 1) (P 1), plan G (q 2) (P 2), plan G (q 3) (P 3)]) (by rw [← e9]; rfl) ?_
    refine zj_eqp (bs' := [[((a 0), .inr (0, [.ref (a 1), .int (nI 3)]))], [((a 1), .inl (G.2 2, 4, .inr (.inr (.inr (.inr (pl4 (rot q)))))))], plan G (rot q 0) (rot P 0), plan G (rot q 1) (rot P 1), plan G (rot q 2) (rot P 2), plan G (rot q 3) (rot P 3)]) (((List.perm_append_comm (l₁ := [plan G (q 0) (P 0)]) (l₂ := [plan G (q 1) (P 1), plan G (q 2) (P 2), plan G (q 3) (P 3)])).cons _).cons _).flatten ?_
    refine zj_vretF C hr hlocks dX0_dropOldest_46 ?_
    exact rfl
  · have hlt : k < 4 := zlt c_11 (by omega)
    refine zj_aload_n (pc := 14) C dX0_dropOldest_14 rfl ?_
    refine gf_X0_0 (pc := 15) C dX0_dropOldest_15 0 rfl ?_
    refine zj_iload_n (pc := 18) C dX0_dropOldest_18 rfl ?_
    refine zj_iconst (pc := 19) (v := 1) C dX0_dropOldest_19 (by decide) ?_
    refine zj_isub (pc := 20) C dX0_dropOldest_20 ?_
    refine zj_aload_n (pc := 21) C dX0_dropOldest_21 rfl ?_
    refine gf_X0_0 (pc := 22) C dX0_dropOldest_22 0 rfl ?_
    refine zj_iload_n (pc := 25) C dX0_dropOldest_25 rfl ?_
    refine zj_aald (pc := 26) (k) C dX0_dropOldest_26 1 rfl rfl hlt (by decide) (v := .ref (q k 0)) (by rw [arI_at hlt]; rfl) ?_
    refine zj_aast (pc := 27) (k - 1) C dX0_dropOldest_27 1 0 rfl (⟨_, hist_mem hlt, rfl⟩) (pk_sub (b := 1) hk1) (by omega) (by decide) ?_
    refine zj_iinc (pc := 28) (v := nI (k + 1)) C dX0_dropOldest_28 rfl (nI_1 _) ?_
    refine zj_goto (pc := 31) (tgt := 9) C dX0_dropOldest_31 (by decide) ?_
    refine zj_blk (bs' := [[((a 0), .inr (0, [.ref (a 1), .int (nI n)]))], [((a 1), .inl (G.2 2, 4, .inr (.inr (.inr (.inr (arI q (k + 1)))))))], plan G (q 0) (P 0), plan G (q 1) (P 1), plan G (q 2) (P 2), plan G (q 3) (P 3)]) (by rw [← arI_s hk1]; rfl) ?_
    exact ih (k + 1) ⟨by omega, by omega⟩ (by omega)
set_option maxRecDepth 100000 in
set_option maxHeartbeats 4000000 in
theorem m_X0_record0 {l : Launch} {G : GG} {a b : Nat → Nat} {q : Nat → Nat → Nat} {P : Nat → PC} {X : PC} : zX l G yX0_record cX0_record 3 none 3 68 0 0 [.ref (a 0), .ref (b 0)] (hist G a q P 0 ++ plan G b X) (zF none (hist G a q (updP P 0 X) 1 ++ plan G b X)) := by
  refine zj_startF RX0 (by decide +kernel) rfl rfl rfl (bs := [[((a 0), .inr (0, [.ref (a 1), .int (nI 0)]))], [((a 1), .inl (G.2 2, 4, .inr (.inr (.inr (.inr (pl4 q))))))], plan G (q 0) (P 0), plan G (q 1) (P 1), plan G (q 2) (P 2), plan G (q 3) (P 3), plan G b X]) rfl (lo := [some (.ref (a 0)), some (.ref (b 0)), none]) rfl ?_
  intro p0 e0 s0 m0 args0 below0 meth0 c0 A0 C hr hlocks
  refine zj_aload_n (pc := 0) C dX0_record_0 rfl ?_
  refine gf_X0_1 (pc := 1) C dX0_record_1 0 rfl ?_
  refine zj_iconst (pc := 4) (v := 4) C dX0_record_4 (by decide) ?_
  refine zj_icmp_lt (pc := 5) 12 C dX0_record_5 (by decide) (fun c_5 => ?_) (fun c_5 => absurd (show nI 0 < 4 by decide) c_5)
  refine zj_aload_n (pc := 12) C dX0_record_12 rfl ?_
  refine gf_X0_1 (pc := 13) C dX0_record_13 0 rfl ?_
  refine zj_if_lt (pc := 16) 31 C dX0_record_16 (by decide) (fun c_16 => absurd c_16 (by decide)) (fun c_16 => ?_)
  refine zj_aload_n (pc := 19) C dX0_record_19 rfl ?_
  refine gf_X0_1 (pc := 20) C dX0_record_20 0 rfl ?_
  refine zj_aload_n (pc := 23) C dX0_record_23 rfl ?_
  refine gf_X0_0 (pc := 24) C dX0_record_24 0 rfl ?_
  refine zj_alen (pc := 27) (t0 := 2) C dX0_record_27 1 (by decide) rfl ?_
  refine zj_icmp_lt (pc := 28) 32 C dX0_record_28 (by decide) (fun c_28 => ?_) (fun c_28 => absurd (show nI 0 < nI 4 by decide) c_28)
  refine zj_aload_n (pc := 32) C dX0_record_32 rfl ?_
  refine gf_X0_0 (pc := 33) C dX0_record_33 0 rfl ?_
  refine zj_aload_n (pc := 36) C dX0_record_36 rfl ?_
  refine gf_X0_1 (pc := 37) C dX0_record_37 0 rfl ?_
  refine zj_aald (pc := 40) (0) C dX0_record_40 1 rfl rfl (by decide) (by decide) (v := .ref (q 0 0)) rfl ?_
  refine zj_astore_n (pc := 41) C dX0_record_41 (Nat.le_of_ble_eq_true rfl) ?_
  refine zj_aload_n (pc := 42) C dX0_record_42 rfl ?_
  refine zj_ifnull (pc := 43) C dX0_record_43 ?_
  refine zj_aload_n (pc := 46) C dX0_record_46 rfl ?_
  refine zj_aload_n (pc := 47) C dX0_record_47 rfl ?_
  refine zj_callF2n (pc := 48) C kv_X0_25 (m_X1_copyFrom) dX0_record_48 2 6 rfl rfl rfl rfl rfl rfl rfl rfl rfl ⟨0, rfl⟩ rfl rfl ?_
  refine zj_aload_n (pc := 51) C dX0_record_51 rfl ?_
  refine zj_dup (pc := 52) C dX0_record_52 rfl ?_
  refine gf_X0_1 (pc := 53) C dX0_record_53 0 rfl ?_
  refine zj_iconst (pc := 56) (v := 1) C dX0_record_56 (by decide) ?_
  refine zj_iadd (pc := 57) C dX0_record_57 ?_
  refine pf_X0_1 (pc := 58) C dX0_record_58 0 rfl ?_
  refine zj_vretF C hr hlocks dX0_record_61 ?_
  exact rfl
set_option maxRecDepth 100000 in
set_option maxHeartbeats 4000000 in
theorem m_X0_record1 {l : Launch} {G : GG} {a b : Nat → Nat} {q : Nat → Nat → Nat} {P : Nat → PC} {X : PC} : zX l G yX0_record cX0_record 3 none 3 68 0 0 [.ref (a 0), .ref (b 0)] (hist G a q P 1 ++ plan G b X) (zF none (hist G a q (updP P 1 X) 2 ++ plan G b X)) := by
  refine zj_startF RX0 (by decide +kernel) rfl rfl rfl (bs := [[((a 0), .inr (0, [.ref (a 1), .int (nI 1)]))], [((a 1), .inl (G.2 2, 4, .inr (.inr (.inr (.inr (pl4 q))))))], plan G (q 0) (P 0), plan G (q 1) (P 1), plan G (q 2) (P 2), plan G (q 3) (P 3), plan G b X]) rfl (lo := [some (.ref (a 0)), some (.ref (b 0)), none]) rfl ?_
  intro p0 e0 s0 m0 args0 below0 meth0 c0 A0 C hr hlocks
  refine zj_aload_n (pc := 0) C dX0_record_0 rfl ?_
  refine gf_X0_1 (pc := 1) C dX0_record_1 0 rfl ?_
  refine zj_iconst (pc := 4) (v := 4) C dX0_record_4 (by decide) ?_
  refine zj_icmp_lt (pc := 5) 12 C dX0_record_5 (by decide) (fun c_5 => ?_) (fun c_5 => absurd (show nI 1 < 4 by decide) c_5)
  refine zj_aload_n (pc := 12) C dX0_record_12 rfl ?_
  refine gf_X0_1 (pc := 13) C dX0_record_13 0 rfl ?_
  refine zj_if_lt (pc := 16) 31 C dX0_record_16 (by decide) (fun c_16 => absurd c_16 (by decide)) (fun c_16 => ?_)
  refine zj_aload_n (pc := 19) C dX0_record_19 rfl ?_
  refine gf_X0_1 (pc := 20) C dX0_record_20 0 rfl ?_
  refine zj_aload_n (pc := 23) C dX0_record_23 rfl ?_
  refine gf_X0_0 (pc := 24) C dX0_record_24 0 rfl ?_
  refine zj_alen (pc := 27) (t0 := 2) C dX0_record_27 1 (by decide) rfl ?_
  refine zj_icmp_lt (pc := 28) 32 C dX0_record_28 (by decide) (fun c_28 => ?_) (fun c_28 => absurd (show nI 1 < nI 4 by decide) c_28)
  refine zj_aload_n (pc := 32) C dX0_record_32 rfl ?_
  refine gf_X0_0 (pc := 33) C dX0_record_33 0 rfl ?_
  refine zj_aload_n (pc := 36) C dX0_record_36 rfl ?_
  refine gf_X0_1 (pc := 37) C dX0_record_37 0 rfl ?_
  refine zj_aald (pc := 40) (1) C dX0_record_40 1 rfl rfl (by decide) (by decide) (v := .ref (q 1 0)) rfl ?_
  refine zj_astore_n (pc := 41) C dX0_record_41 (Nat.le_of_ble_eq_true rfl) ?_
  refine zj_aload_n (pc := 42) C dX0_record_42 rfl ?_
  refine zj_ifnull (pc := 43) C dX0_record_43 ?_
  refine zj_aload_n (pc := 46) C dX0_record_46 rfl ?_
  refine zj_aload_n (pc := 47) C dX0_record_47 rfl ?_
  refine zj_callF2n (pc := 48) C kv_X0_25 (m_X1_copyFrom) dX0_record_48 3 6 rfl rfl rfl rfl rfl rfl rfl rfl rfl ⟨0, rfl⟩ rfl rfl ?_
  refine zj_aload_n (pc := 51) C dX0_record_51 rfl ?_
  refine zj_dup (pc := 52) C dX0_record_52 rfl ?_
  refine gf_X0_1 (pc := 53) C dX0_record_53 0 rfl ?_
  refine zj_iconst (pc := 56) (v := 1) C dX0_record_56 (by decide) ?_
  refine zj_iadd (pc := 57) C dX0_record_57 ?_
  refine pf_X0_1 (pc := 58) C dX0_record_58 0 rfl ?_
  refine zj_vretF C hr hlocks dX0_record_61 ?_
  exact rfl
set_option maxRecDepth 100000 in
set_option maxHeartbeats 4000000 in
theorem m_X0_record2 {l : Launch} {G : GG} {a b : Nat → Nat} {q : Nat → Nat → Nat} {P : Nat → PC} {X : PC} : zX l G yX0_record cX0_record 3 none 3 68 0 0 [.ref (a 0), .ref (b 0)] (hist G a q P 2 ++ plan G b X) (zF none (hist G a q (updP P 2 X) 3 ++ plan G b X)) := by
  refine zj_startF RX0 (by decide +kernel) rfl rfl rfl (bs := [[((a 0), .inr (0, [.ref (a 1), .int (nI 2)]))], [((a 1), .inl (G.2 2, 4, .inr (.inr (.inr (.inr (pl4 q))))))], plan G (q 0) (P 0), plan G (q 1) (P 1), plan G (q 2) (P 2), plan G (q 3) (P 3), plan G b X]) rfl (lo := [some (.ref (a 0)), some (.ref (b 0)), none]) rfl ?_
  intro p0 e0 s0 m0 args0 below0 meth0 c0 A0 C hr hlocks
  refine zj_aload_n (pc := 0) C dX0_record_0 rfl ?_
  refine gf_X0_1 (pc := 1) C dX0_record_1 0 rfl ?_
  refine zj_iconst (pc := 4) (v := 4) C dX0_record_4 (by decide) ?_
  refine zj_icmp_lt (pc := 5) 12 C dX0_record_5 (by decide) (fun c_5 => ?_) (fun c_5 => absurd (show nI 2 < 4 by decide) c_5)
  refine zj_aload_n (pc := 12) C dX0_record_12 rfl ?_
  refine gf_X0_1 (pc := 13) C dX0_record_13 0 rfl ?_
  refine zj_if_lt (pc := 16) 31 C dX0_record_16 (by decide) (fun c_16 => absurd c_16 (by decide)) (fun c_16 => ?_)
  refine zj_aload_n (pc := 19) C dX0_record_19 rfl ?_
  refine gf_X0_1 (pc := 20) C dX0_record_20 0 rfl ?_
  refine zj_aload_n (pc := 23) C dX0_record_23 rfl ?_
  refine gf_X0_0 (pc := 24) C dX0_record_24 0 rfl ?_
  refine zj_alen (pc := 27) (t0 := 2) C dX0_record_27 1 (by decide) rfl ?_
  refine zj_icmp_lt (pc := 28) 32 C dX0_record_28 (by decide) (fun c_28 => ?_) (fun c_28 => absurd (show nI 2 < nI 4 by decide) c_28)
  refine zj_aload_n (pc := 32) C dX0_record_32 rfl ?_
  refine gf_X0_0 (pc := 33) C dX0_record_33 0 rfl ?_
  refine zj_aload_n (pc := 36) C dX0_record_36 rfl ?_
  refine gf_X0_1 (pc := 37) C dX0_record_37 0 rfl ?_
  refine zj_aald (pc := 40) (2) C dX0_record_40 1 rfl rfl (by decide) (by decide) (v := .ref (q 2 0)) rfl ?_
  refine zj_astore_n (pc := 41) C dX0_record_41 (Nat.le_of_ble_eq_true rfl) ?_
  refine zj_aload_n (pc := 42) C dX0_record_42 rfl ?_
  refine zj_ifnull (pc := 43) C dX0_record_43 ?_
  refine zj_aload_n (pc := 46) C dX0_record_46 rfl ?_
  refine zj_aload_n (pc := 47) C dX0_record_47 rfl ?_
  refine zj_callF2n (pc := 48) C kv_X0_25 (m_X1_copyFrom) dX0_record_48 4 6 rfl rfl rfl rfl rfl rfl rfl rfl rfl ⟨0, rfl⟩ rfl rfl ?_
  refine zj_aload_n (pc := 51) C dX0_record_51 rfl ?_
  refine zj_dup (pc := 52) C dX0_record_52 rfl ?_
  refine gf_X0_1 (pc := 53) C dX0_record_53 0 rfl ?_
  refine zj_iconst (pc := 56) (v := 1) C dX0_record_56 (by decide) ?_
  refine zj_iadd (pc := 57) C dX0_record_57 ?_
  refine pf_X0_1 (pc := 58) C dX0_record_58 0 rfl ?_
  refine zj_vretF C hr hlocks dX0_record_61 ?_
  exact rfl
set_option maxRecDepth 100000 in
set_option maxHeartbeats 4000000 in
theorem m_X0_record3 {l : Launch} {G : GG} {a b : Nat → Nat} {q : Nat → Nat → Nat} {P : Nat → PC} {X : PC} : zX l G yX0_record cX0_record 3 none 3 68 0 0 [.ref (a 0), .ref (b 0)] (hist G a q P 3 ++ plan G b X) (zF none (hist G a q (updP P 3 X) 4 ++ plan G b X)) := by
  refine zj_startF RX0 (by decide +kernel) rfl rfl rfl (bs := [[((a 0), .inr (0, [.ref (a 1), .int (nI 3)]))], [((a 1), .inl (G.2 2, 4, .inr (.inr (.inr (.inr (pl4 q))))))], plan G (q 0) (P 0), plan G (q 1) (P 1), plan G (q 2) (P 2), plan G (q 3) (P 3), plan G b X]) rfl (lo := [some (.ref (a 0)), some (.ref (b 0)), none]) rfl ?_
  intro p0 e0 s0 m0 args0 below0 meth0 c0 A0 C hr hlocks
  refine zj_aload_n (pc := 0) C dX0_record_0 rfl ?_
  refine gf_X0_1 (pc := 1) C dX0_record_1 0 rfl ?_
  refine zj_iconst (pc := 4) (v := 4) C dX0_record_4 (by decide) ?_
  refine zj_icmp_lt (pc := 5) 12 C dX0_record_5 (by decide) (fun c_5 => ?_) (fun c_5 => absurd (show nI 3 < 4 by decide) c_5)
  refine zj_aload_n (pc := 12) C dX0_record_12 rfl ?_
  refine gf_X0_1 (pc := 13) C dX0_record_13 0 rfl ?_
  refine zj_if_lt (pc := 16) 31 C dX0_record_16 (by decide) (fun c_16 => absurd c_16 (by decide)) (fun c_16 => ?_)
  refine zj_aload_n (pc := 19) C dX0_record_19 rfl ?_
  refine gf_X0_1 (pc := 20) C dX0_record_20 0 rfl ?_
  refine zj_aload_n (pc := 23) C dX0_record_23 rfl ?_
  refine gf_X0_0 (pc := 24) C dX0_record_24 0 rfl ?_
  refine zj_alen (pc := 27) (t0 := 2) C dX0_record_27 1 (by decide) rfl ?_
  refine zj_icmp_lt (pc := 28) 32 C dX0_record_28 (by decide) (fun c_28 => ?_) (fun c_28 => absurd (show nI 3 < nI 4 by decide) c_28)
  refine zj_aload_n (pc := 32) C dX0_record_32 rfl ?_
  refine gf_X0_0 (pc := 33) C dX0_record_33 0 rfl ?_
  refine zj_aload_n (pc := 36) C dX0_record_36 rfl ?_
  refine gf_X0_1 (pc := 37) C dX0_record_37 0 rfl ?_
  refine zj_aald (pc := 40) (3) C dX0_record_40 1 rfl rfl (by decide) (by decide) (v := .ref (q 3 0)) rfl ?_
  refine zj_astore_n (pc := 41) C dX0_record_41 (Nat.le_of_ble_eq_true rfl) ?_
  refine zj_aload_n (pc := 42) C dX0_record_42 rfl ?_
  refine zj_ifnull (pc := 43) C dX0_record_43 ?_
  refine zj_aload_n (pc := 46) C dX0_record_46 rfl ?_
  refine zj_aload_n (pc := 47) C dX0_record_47 rfl ?_
  refine zj_callF2n (pc := 48) C kv_X0_25 (m_X1_copyFrom) dX0_record_48 5 6 rfl rfl rfl rfl rfl rfl rfl rfl rfl ⟨0, rfl⟩ rfl rfl ?_
  refine zj_aload_n (pc := 51) C dX0_record_51 rfl ?_
  refine zj_dup (pc := 52) C dX0_record_52 rfl ?_
  refine gf_X0_1 (pc := 53) C dX0_record_53 0 rfl ?_
  refine zj_iconst (pc := 56) (v := 1) C dX0_record_56 (by decide) ?_
  refine zj_iadd (pc := 57) C dX0_record_57 ?_
  refine pf_X0_1 (pc := 58) C dX0_record_58 0 rfl ?_
  refine zj_vretF C hr hlocks dX0_record_61 ?_
  exact rfl
set_option maxRecDepth 100000 in
set_option maxHeartbeats 4000000 in
theorem m_X0_record4 {l : Launch} {G : GG} {a b : Nat → Nat} {q : Nat → Nat → Nat} {P : Nat → PC} {X : PC} : zX l G yX0_record cX0_record 3 none 3 68 0 0 [.ref (a 0), .ref (b 0)] (hist G a q P 4 ++ plan G b X) (zF none (hist G a (rot q) (updP (rot P) 3 X) 4 ++ plan G b X)) := by
  refine zj_startF RX0 (by decide +kernel) rfl rfl rfl (bs := [[((a 0), .inr (0, [.ref (a 1), .int (nI 4)]))], [((a 1), .inl (G.2 2, 4, .inr (.inr (.inr (.inr (pl4 q))))))], plan G (q 0) (P 0), plan G (q 1) (P 1), plan G (q 2) (P 2), plan G (q 3) (P 3), plan G b X]) rfl (lo := [some (.ref (a 0)), some (.ref (b 0)), none]) rfl ?_
  intro p0 e0 s0 m0 args0 below0 meth0 c0 A0 C hr hlocks
  refine zj_aload_n (pc := 0) C dX0_record_0 rfl ?_
  refine gf_X0_1 (pc := 1) C dX0_record_1 0 rfl ?_
  refine zj_iconst (pc := 4) (v := 4) C dX0_record_4 (by decide) ?_
  refine zj_icmp_lt (pc := 5) 12 C dX0_record_5 (by decide) (fun c_5 => absurd c_5 (by decide)) (fun c_5 => ?_)
  refine zj_aload_n (pc := 8) C dX0_record_8 rfl ?_
  refine zj_callA (pc := 9) C kv_X0_22 (m_X0_dropOldest) dX0_record_9 [0, 1, 2, 3, 4, 5] [6] rfl rfl rfl rfl rfl rfl rfl rfl ⟨0, rfl⟩ rfl rfl (fun v w1 hq => ?_)
  obtain ⟨rfl, rfl⟩ := hq
  refine zj_blk (bs' := [[((a 0), .inr (0, [.ref (a 1), .int (nI 3)]))], [((a 1), .inl (G.2 2, 4, .inr (.inr (.inr (.inr (pl4 (rot q)))))))], plan G (rot q 0) (rot P 0), plan G (rot q 1) (rot P 1), plan G (rot q 2) (rot P 2), plan G (rot q 3) (rot P 3), plan G b X]) rfl ?_
  refine zj_aload_n (pc := 12) C dX0_record_12 rfl ?_
  refine gf_X0_1 (pc := 13) C dX0_record_13 0 rfl ?_
  refine zj_if_lt (pc := 16) 31 C dX0_record_16 (by decide) (fun c_16 => absurd c_16 (by decide)) (fun c_16 => ?_)
  refine zj_aload_n (pc := 19) C dX0_record_19 rfl ?_
  refine gf_X0_1 (pc := 20) C dX0_record_20 0 rfl ?_
  refine zj_aload_n (pc := 23) C dX0_record_23 rfl ?_
  refine gf_X0_0 (pc := 24) C dX0_record_24 0 rfl ?_
  refine zj_alen (pc := 27) (t0 := 2) C dX0_record_27 1 (by decide) rfl ?_
  refine zj_icmp_lt (pc := 28) 32 C dX0_record_28 (by decide) (fun c_28 => ?_) (fun c_28 => absurd (show nI 3 < nI 4 by decide) c_28)
  refine zj_aload_n (pc := 32) C dX0_record_32 rfl ?_
  refine gf_X0_0 (pc := 33) C dX0_record_33 0 rfl ?_
  refine zj_aload_n (pc := 36) C dX0_record_36 rfl ?_
  refine gf_X0_1 (pc := 37) C dX0_record_37 0 rfl ?_
  refine zj_aald (pc := 40) (3) C dX0_record_40 1 rfl rfl (by decide) (by decide) (v := .ref (rot q 3 0)) rfl ?_
  refine zj_astore_n (pc := 41) C dX0_record_41 (Nat.le_of_ble_eq_true rfl) ?_
  refine zj_aload_n (pc := 42) C dX0_record_42 rfl ?_
  refine zj_ifnull (pc := 43) C dX0_record_43 ?_
  refine zj_aload_n (pc := 46) C dX0_record_46 rfl ?_
  refine zj_aload_n (pc := 47) C dX0_record_47 rfl ?_
  refine zj_callF2n (pc := 48) C kv_X0_25 (m_X1_copyFrom) dX0_record_48 5 6 rfl rfl rfl rfl rfl rfl rfl rfl rfl ⟨0, rfl⟩ rfl rfl ?_
  refine zj_aload_n (pc := 51) C dX0_record_51 rfl ?_
  refine zj_dup (pc := 52) C dX0_record_52 rfl ?_
  refine gf_X0_1 (pc := 53) C dX0_record_53 0 rfl ?_
  refine zj_iconst (pc := 56) (v := 1) C dX0_record_56 (by decide) ?_
  refine zj_iadd (pc := 57) C dX0_record_57 ?_
  refine pf_X0_1 (pc := 58) C dX0_record_58 0 rfl ?_
  refine zj_vretF C hr hlocks dX0_record_61 ?_
  exact rfl
set_option maxRecDepth 100000 in
set_option maxHeartbeats 4000000 in
theorem m_X0_moveLatestTo0 {l : Launch} {G : GG} {a b : Nat → Nat} {q : Nat → Nat → Nat} {P : Nat → PC} {X : PC} : zX l G yX0_moveLatestTo cX0_moveLatestTo 3 (some .boolean) 3 68 0 0 [.ref (a 0), .ref (b 0)] (hist G a q P 0 ++ plan G b X) (zF (some (.int (bI (false)))) (hist G a q P 0 ++ plan G b X)) := by
  refine zj_startF RX0 (by decide +kernel) rfl rfl rfl (bs := [[((a 0), .inr (0, [.ref (a 1), .int (nI 0)]))], [((a 1), .inl (G.2 2, 4, .inr (.inr (.inr (.inr (pl4 q))))))], plan G (q 0) (P 0), plan G (q 1) (P 1), plan G (q 2) (P 2), plan G (q 3) (P 3), plan G b X]) rfl (lo := [some (.ref (a 0)), some (.ref (b 0)), none]) rfl ?_
  intro p0 e0 s0 m0 args0 below0 meth0 c0 A0 C hr hlocks
  refine zj_aload_n (pc := 0) C dX0_moveLatestTo_0 rfl ?_
  refine gf_X0_1 (pc := 1) C dX0_moveLatestTo_1 0 rfl ?_
  refine zj_iconst (pc := 4) (v := 1) C dX0_moveLatestTo_4 (by decide) ?_
  refine zj_icmp_lt (pc := 5) 20 C dX0_moveLatestTo_5 (by decide) (fun c_5 => ?_) (fun c_5 => absurd (show nI 0 < 1 by decide) c_5)
  refine zj_iconst (pc := 20) (v := 0) C dX0_moveLatestTo_20 (by decide) ?_
  refine zj_zretF C hr hlocks dX0_moveLatestTo_21 ?_ rfl
  exact rfl
set_option maxRecDepth 100000 in
set_option maxHeartbeats 4000000 in
theorem m_X0_moveLatestTo1 {l : Launch} {G : GG} {a b : Nat → Nat} {q : Nat → Nat → Nat} {P : Nat → PC} {X : PC} : zX l G yX0_moveLatestTo cX0_moveLatestTo 3 (some .boolean) 3 68 0 0 [.ref (a 0), .ref (b 0)] (hist G a q P 1 ++ plan G b X) (zF (some (.int (bI (true)))) (hist G a q P 0 ++ plan G b (P 0))) := by
  refine zj_startF RX0 (by decide +kernel) rfl rfl rfl (bs := [[((a 0), .inr (0, [.ref (a 1), .int (nI 1)]))], [((a 1), .inl (G.2 2, 4, .inr (.inr (.inr (.inr (pl4 q))))))], plan G (q 0) (P 0), plan G (q 1) (P 1), plan G (q 2) (P 2), plan G (q 3) (P 3), plan G b X]) rfl (lo := [some (.ref (a 0)), some (.ref (b 0)), none]) rfl ?_
  intro p0 e0 s0 m0 args0 below0 meth0 c0 A0 C hr hlocks
  refine zj_aload_n (pc := 0) C dX0_moveLatestTo_0 rfl ?_
  refine gf_X0_1 (pc := 1) C dX0_moveLatestTo_1 0 rfl ?_
  refine zj_iconst (pc := 4) (v := 1) C dX0_moveLatestTo_4 (by decide) ?_
  refine zj_icmp_lt (pc := 5) 20 C dX0_moveLatestTo_5 (by decide) (fun c_5 => absurd c_5 (by decide)) (fun c_5 => ?_)
  refine zj_aload_n (pc := 8) C dX0_moveLatestTo_8 rfl ?_
  refine gf_X0_1 (pc := 9) C dX0_moveLatestTo_9 0 rfl ?_
  refine zj_aload_n (pc := 12) C dX0_moveLatestTo_12 rfl ?_
  refine gf_X0_0 (pc := 13) C dX0_moveLatestTo_13 0 rfl ?_
  refine zj_alen (pc := 16) (t0 := 2) C dX0_moveLatestTo_16 1 (by decide) rfl ?_
  refine zj_icmp_le (pc := 17) 22 C dX0_moveLatestTo_17 (by decide) (fun c_17 => ?_) (fun c_17 => absurd (show nI 1 ≤ nI 4 by decide) c_17)
  refine zj_aload_n (pc := 22) C dX0_moveLatestTo_22 rfl ?_
  refine gf_X0_0 (pc := 23) C dX0_moveLatestTo_23 0 rfl ?_
  refine zj_aload_n (pc := 26) C dX0_moveLatestTo_26 rfl ?_
  refine gf_X0_1 (pc := 27) C dX0_moveLatestTo_27 0 rfl ?_
  refine zj_iconst (pc := 30) (v := 1) C dX0_moveLatestTo_30 (by decide) ?_
  refine zj_isub (pc := 31) C dX0_moveLatestTo_31 ?_
  refine zj_aald (pc := 32) (0) C dX0_moveLatestTo_32 1 rfl rfl (by decide) (by decide) (v := .ref (q 0 0)) rfl ?_
  refine zj_astore_n (pc := 33) C dX0_moveLatestTo_33 (Nat.le_of_ble_eq_true rfl) ?_
  refine zj_aload_n (pc := 34) C dX0_moveLatestTo_34 rfl ?_
  refine zj_ifnonnull (pc := 35) 40 C dX0_moveLatestTo_35 (by decide) ?_
  refine zj_aload_n (pc := 40) C dX0_moveLatestTo_40 rfl ?_
  refine zj_aload_n (pc := 41) C dX0_moveLatestTo_41 rfl ?_
  refine zj_callF2n (pc := 42) C kv_X0_25 (m_X1_copyFrom) dX0_moveLatestTo_42 6 2 rfl rfl rfl rfl rfl rfl rfl rfl rfl ⟨0, rfl⟩ rfl rfl ?_
  refine zj_aload_n (pc := 45) C dX0_moveLatestTo_45 rfl ?_
  refine zj_dup (pc := 46) C dX0_moveLatestTo_46 rfl ?_
  refine gf_X0_1 (pc := 47) C dX0_moveLatestTo_47 0 rfl ?_
  refine zj_iconst (pc := 50) (v := 1) C dX0_moveLatestTo_50 (by decide) ?_
  refine zj_isub (pc := 51) C dX0_moveLatestTo_51 ?_
  refine pf_X0_1 (pc := 52) C dX0_moveLatestTo_52 0 rfl ?_
  refine zj_iconst (pc := 55) (v := 1) C dX0_moveLatestTo_55 (by decide) ?_
  refine zj_zretF C hr hlocks dX0_moveLatestTo_56 ?_ rfl
  exact rfl
set_option maxRecDepth 100000 in
set_option maxHeartbeats 4000000 in
theorem m_X0_moveLatestTo2 {l : Launch} {G : GG} {a b : Nat → Nat} {q : Nat → Nat → Nat} {P : Nat → PC} {X : PC} : zX l G yX0_moveLatestTo cX0_moveLatestTo 3 (some .boolean) 3 68 0 0 [.ref (a 0), .ref (b 0)] (hist G a q P 2 ++ plan G b X) (zF (some (.int (bI (true)))) (hist G a q P 1 ++ plan G b (P 1))) := by
  refine zj_startF RX0 (by decide +kernel) rfl rfl rfl (bs := [[((a 0), .inr (0, [.ref (a 1), .int (nI 2)]))], [((a 1), .inl (G.2 2, 4, .inr (.inr (.inr (.inr (pl4 q))))))], plan G (q 0) (P 0), plan G (q 1) (P 1), plan G (q 2) (P 2), plan G (q 3) (P 3), plan G b X]) rfl (lo := [some (.ref (a 0)), some (.ref (b 0)), none]) rfl ?_
  intro p0 e0 s0 m0 args0 below0 meth0 c0 A0 C hr hlocks
  refine zj_aload_n (pc := 0) C dX0_moveLatestTo_0 rfl ?_
  refine gf_X0_1 (pc := 1) C dX0_moveLatestTo_1 0 rfl ?_
  refine zj_iconst (pc := 4) (v := 1) C dX0_moveLatestTo_4 (by decide) ?_
  refine zj_icmp_lt (pc := 5) 20 C dX0_moveLatestTo_5 (by decide) (fun c_5 => absurd c_5 (by decide)) (fun c_5 => ?_)
  refine zj_aload_n (pc := 8) C dX0_moveLatestTo_8 rfl ?_
  refine gf_X0_1 (pc := 9) C dX0_moveLatestTo_9 0 rfl ?_
  refine zj_aload_n (pc := 12) C dX0_moveLatestTo_12 rfl ?_
  refine gf_X0_0 (pc := 13) C dX0_moveLatestTo_13 0 rfl ?_
  refine zj_alen (pc := 16) (t0 := 2) C dX0_moveLatestTo_16 1 (by decide) rfl ?_
  refine zj_icmp_le (pc := 17) 22 C dX0_moveLatestTo_17 (by decide) (fun c_17 => ?_) (fun c_17 => absurd (show nI 2 ≤ nI 4 by decide) c_17)
  refine zj_aload_n (pc := 22) C dX0_moveLatestTo_22 rfl ?_
  refine gf_X0_0 (pc := 23) C dX0_moveLatestTo_23 0 rfl ?_
  refine zj_aload_n (pc := 26) C dX0_moveLatestTo_26 rfl ?_
  refine gf_X0_1 (pc := 27) C dX0_moveLatestTo_27 0 rfl ?_
  refine zj_iconst (pc := 30) (v := 1) C dX0_moveLatestTo_30 (by decide) ?_
  refine zj_isub (pc := 31) C dX0_moveLatestTo_31 ?_
  refine zj_aald (pc := 32) (1) C dX0_moveLatestTo_32 1 rfl rfl (by decide) (by decide) (v := .ref (q 1 0)) rfl ?_
  refine zj_astore_n (pc := 33) C dX0_moveLatestTo_33 (Nat.le_of_ble_eq_true rfl) ?_
  refine zj_aload_n (pc := 34) C dX0_moveLatestTo_34 rfl ?_
  refine zj_ifnonnull (pc := 35) 40 C dX0_moveLatestTo_35 (by decide) ?_
  refine zj_aload_n (pc := 40) C dX0_moveLatestTo_40 rfl ?_
  refine zj_aload_n (pc := 41) C dX0_moveLatestTo_41 rfl ?_
  refine zj_callF2n (pc := 42) C kv_X0_25 (m_X1_copyFrom) dX0_moveLatestTo_42 6 3 rfl rfl rfl rfl rfl rfl rfl rfl rfl ⟨0, rfl⟩ rfl rfl ?_
  refine zj_aload_n (pc := 45) C dX0_moveLatestTo_45 rfl ?_
  refine zj_dup (pc := 46) C dX0_moveLatestTo_46 rfl ?_
  refine gf_X0_1 (pc := 47) C dX0_moveLatestTo_47 0 rfl ?_
  refine zj_iconst (pc := 50) (v := 1) C dX0_moveLatestTo_50 (by decide) ?_
  refine zj_isub (pc := 51) C dX0_moveLatestTo_51 ?_
  refine pf_X0_1 (pc := 52) C dX0_moveLatestTo_52 0 rfl ?_
  refine zj_iconst (pc := 55) (v := 1) C dX0_moveLatestTo_55 (by decide) ?_
  refine zj_zretF C hr hlocks dX0_moveLatestTo_56 ?_ rfl
  exact rfl
set_option maxRecDepth 100000 in
set_option maxHeartbeats 4000000 in
theorem m_X0_moveLatestTo3 {l : Launch} {G : GG} {a b : Nat → Nat} {q : Nat → Nat → Nat} {P : Nat → PC} {X : PC} : zX l G yX0_moveLatestTo cX0_moveLatestTo 3 (some .boolean) 3 68 0 0 [.ref (a 0), .ref (b 0)] (hist G a q P 3 ++ plan G b X) (zF (some (.int (bI (true)))) (hist G a q P 2 ++ plan G b (P 2))) := by
  refine zj_startF RX0 (by decide +kernel) rfl rfl rfl (bs := [[((a 0), .inr (0, [.ref (a 1), .int (nI 3)]))], [((a 1), .inl (G.2 2, 4, .inr (.inr (.inr (.inr (pl4 q))))))], plan G (q 0) (P 0), plan G (q 1) (P 1), plan G (q 2) (P 2), plan G (q 3) (P 3), plan G b X]) rfl (lo := [some (.ref (a 0)), some (.ref (b 0)), none]) rfl ?_
  intro p0 e0 s0 m0 args0 below0 meth0 c0 A0 C hr hlocks
  refine zj_aload_n (pc := 0) C dX0_moveLatestTo_0 rfl ?_
  refine gf_X0_1 (pc := 1) C dX0_moveLatestTo_1 0 rfl ?_
  refine zj_iconst (pc := 4) (v := 1) C dX0_moveLatestTo_4 (by decide) ?_
  refine zj_icmp_lt (pc := 5) 20 C dX0_moveLatestTo_5 (by decide) (fun c_5 => absurd c_5 (by decide)) (fun c_5 => ?_)
  refine zj_aload_n (pc := 8) C dX0_moveLatestTo_8 rfl ?_
  refine gf_X0_1 (pc := 9) C dX0_moveLatestTo_9 0 rfl ?_
  refine zj_aload_n (pc := 12) C dX0_moveLatestTo_12 rfl ?_
  refine gf_X0_0 (pc := 13) C dX0_moveLatestTo_13 0 rfl ?_
  refine zj_alen (pc := 16) (t0 := 2) C dX0_moveLatestTo_16 1 (by decide) rfl ?_
  refine zj_icmp_le (pc := 17) 22 C dX0_moveLatestTo_17 (by decide) (fun c_17 => ?_) (fun c_17 => absurd (show nI 3 ≤ nI 4 by decide) c_17)
  refine zj_aload_n (pc := 22) C dX0_moveLatestTo_22 rfl ?_
  refine gf_X0_0 (pc := 23) C dX0_moveLatestTo_23 0 rfl ?_
  refine zj_aload_n (pc := 26) C dX0_moveLatestTo_26 rfl ?_
  refine gf_X0_1 (pc := 27) C dX0_moveLatestTo_27 0 rfl ?_
  refine zj_iconst (pc := 30) (v := 1) C dX0_moveLatestTo_30 (by decide) ?_
  refine zj_isub (pc := 31) C dX0_moveLatestTo_31 ?_
  refine zj_aald (pc := 32) (2) C dX0_moveLatestTo_32 1 rfl rfl (by decide) (by decide) (v := .ref (q 2 0)) rfl ?_
  refine zj_astore_n (pc := 33) C dX0_moveLatestTo_33 (Nat.le_of_ble_eq_true rfl) ?_
  refine zj_aload_n (pc := 34) C dX0_moveLatestTo_34 rfl ?_
  refine zj_ifnonnull (pc := 35) 40 C dX0_moveLatestTo_35 (by decide) ?_
  refine zj_aload_n (pc := 40) C dX0_moveLatestTo_40 rfl ?_
  refine zj_aload_n (pc := 41) C dX0_moveLatestTo_41 rfl ?_
  refine zj_callF2n (pc := 42) C kv_X0_25 (m_X1_copyFrom) dX0_moveLatestTo_42 6 4 rfl rfl rfl rfl rfl rfl rfl rfl rfl ⟨0, rfl⟩ rfl rfl ?_
  refine zj_aload_n (pc := 45) C dX0_moveLatestTo_45 rfl ?_
  refine zj_dup (pc := 46) C dX0_moveLatestTo_46 rfl ?_
  refine gf_X0_1 (pc := 47) C dX0_moveLatestTo_47 0 rfl ?_
  refine zj_iconst (pc := 50) (v := 1) C dX0_moveLatestTo_50 (by decide) ?_
  refine zj_isub (pc := 51) C dX0_moveLatestTo_51 ?_
  refine pf_X0_1 (pc := 52) C dX0_moveLatestTo_52 0 rfl ?_
  refine zj_iconst (pc := 55) (v := 1) C dX0_moveLatestTo_55 (by decide) ?_
  refine zj_zretF C hr hlocks dX0_moveLatestTo_56 ?_ rfl
  exact rfl
set_option maxRecDepth 100000 in
set_option maxHeartbeats 4000000 in
theorem m_X0_moveLatestTo4 {l : Launch} {G : GG} {a b : Nat → Nat} {q : Nat → Nat → Nat} {P : Nat → PC} {X : PC} : zX l G yX0_moveLatestTo cX0_moveLatestTo 3 (some .boolean) 3 68 0 0 [.ref (a 0), .ref (b 0)] (hist G a q P 4 ++ plan G b X) (zF (some (.int (bI (true)))) (hist G a q P 3 ++ plan G b (P 3))) := by
  refine zj_startF RX0 (by decide +kernel) rfl rfl rfl (bs := [[((a 0), .inr (0, [.ref (a 1), .int (nI 4)]))], [((a 1), .inl (G.2 2, 4, .inr (.inr (.inr (.inr (pl4 q))))))], plan G (q 0) (P 0), plan G (q 1) (P 1), plan G (q 2) (P 2), plan G (q 3) (P 3), plan G b X]) rfl (lo := [some (.ref (a 0)), some (.ref (b 0)), none]) rfl ?_
  intro p0 e0 s0 m0 args0 below0 meth0 c0 A0 C hr hlocks
  refine zj_aload_n (pc := 0) C dX0_moveLatestTo_0 rfl ?_
  refine gf_X0_1 (pc := 1) C dX0_moveLatestTo_1 0 rfl ?_
  refine zj_iconst (pc := 4) (v := 1) C dX0_moveLatestTo_4 (by decide) ?_
  refine zj_icmp_lt (pc := 5) 20 C dX0_moveLatestTo_5 (by decide) (fun c_5 => absurd c_5 (by decide)) (fun c_5 => ?_)
  refine zj_aload_n (pc := 8) C dX0_moveLatestTo_8 rfl ?_
  refine gf_X0_1 (pc := 9) C dX0_moveLatestTo_9 0 rfl ?_
  refine zj_aload_n (pc := 12) C dX0_moveLatestTo_12 rfl ?_
  refine gf_X0_0 (pc := 13) C dX0_moveLatestTo_13 0 rfl ?_
  refine zj_alen (pc := 16) (t0 := 2) C dX0_moveLatestTo_16 1 (by decide) rfl ?_
  refine zj_icmp_le (pc := 17) 22 C dX0_moveLatestTo_17 (by decide) (fun c_17 => ?_) (fun c_17 => absurd (show nI 4 ≤ nI 4 by decide) c_17)
  refine zj_aload_n (pc := 22) C dX0_moveLatestTo_22 rfl ?_
  refine gf_X0_0 (pc := 23) C dX0_moveLatestTo_23 0 rfl ?_
  refine zj_aload_n (pc := 26) C dX0_moveLatestTo_26 rfl ?_
  refine gf_X0_1 (pc := 27) C dX0_moveLatestTo_27 0 rfl ?_
  refine zj_iconst (pc := 30) (v := 1) C dX0_moveLatestTo_30 (by decide) ?_
  refine zj_isub (pc := 31) C dX0_moveLatestTo_31 ?_
  refine zj_aald (pc := 32) (3) C dX0_moveLatestTo_32 1 rfl rfl (by decide) (by decide) (v := .ref (q 3 0)) rfl ?_
  refine zj_astore_n (pc := 33) C dX0_moveLatestTo_33 (Nat.le_of_ble_eq_true rfl) ?_
  refine zj_aload_n (pc := 34) C dX0_moveLatestTo_34 rfl ?_
  refine zj_ifnonnull (pc := 35) 40 C dX0_moveLatestTo_35 (by decide) ?_
  refine zj_aload_n (pc := 40) C dX0_moveLatestTo_40 rfl ?_
  refine zj_aload_n (pc := 41) C dX0_moveLatestTo_41 rfl ?_
  refine zj_callF2n (pc := 42) C kv_X0_25 (m_X1_copyFrom) dX0_moveLatestTo_42 6 5 rfl rfl rfl rfl rfl rfl rfl rfl rfl ⟨0, rfl⟩ rfl rfl ?_
  refine zj_aload_n (pc := 45) C dX0_moveLatestTo_45 rfl ?_
  refine zj_dup (pc := 46) C dX0_moveLatestTo_46 rfl ?_
  refine gf_X0_1 (pc := 47) C dX0_moveLatestTo_47 0 rfl ?_
  refine zj_iconst (pc := 50) (v := 1) C dX0_moveLatestTo_50 (by decide) ?_
  refine zj_isub (pc := 51) C dX0_moveLatestTo_51 ?_
  refine pf_X0_1 (pc := 52) C dX0_moveLatestTo_52 0 rfl ?_
  refine zj_iconst (pc := 55) (v := 1) C dX0_moveLatestTo_55 (by decide) ?_
  refine zj_zretF C hr hlocks dX0_moveLatestTo_56 ?_ rfl
  exact rfl
/-- what is kept of a state: the history behind it -/
def hQ (q : Nat → Nat → Nat) (n : Nat) : Nat → Nat → Nat := if n < 4 then q else rot q
def hP' (P : Nat → PC) (n : Nat) (X : PC) : Nat → PC := if n < 4 then updP P n X else updP (rot P) 3 X
def hN (n : Nat) : Nat := if n < 4 then n + 1 else 4
theorem m_X0_record {l : Launch} {G : GG} {a b : Nat → Nat} {q : Nat → Nat → Nat} {P : Nat → PC} {X : PC} {n : Nat} (hn : n ≤ 4) : zX l G yX0_record cX0_record 3 none 3 68 0 0 [.ref (a 0), .ref (b 0)] (hist G a q P n ++ plan G b X) (zF none (hist G a (hQ q n) (hP' P n X) (hN n) ++ plan G b X)) := by
  rcases (show n = 0 ∨ n = 1 ∨ n = 2 ∨ n = 3 ∨ n = 4 by omega) with rfl | rfl | rfl | rfl | rfl
  · exact m_X0_record0
  · exact m_X0_record1
  · exact m_X0_record2
  · exact m_X0_record3
  · exact m_X0_record4
theorem m_X0_moveLatestTo {l : Launch} {G : GG} {a b : Nat → Nat} {q : Nat → Nat → Nat} {P : Nat → PC} {X : PC} {n : Nat} (hn : n ≤ 4) : zX l G yX0_moveLatestTo cX0_moveLatestTo 3 (some .boolean) 3 68 0 0 [.ref (a 0), .ref (b 0)] (hist G a q P n ++ plan G b X) (zF (some (.int (bI (!(n == 0))))) (hist G a q P (n - 1) ++ plan G b (if n = 0 then X else P (n - 1)))) := by
  rcases (show n = 0 ∨ n = 1 ∨ n = 2 ∨ n = 3 ∨ n = 4 by omega) with rfl | rfl | rfl | rfl | rfl
  · exact m_X0_moveLatestTo0
  · exact m_X0_moveLatestTo1
  · exact m_X0_moveLatestTo2
  · exact m_X0_moveLatestTo3
  · exact m_X0_moveLatestTo4
