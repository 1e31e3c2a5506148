/-! THE LAW'S METHODS, THE SMALL ONES -/
def lowI (x n : Int32) : Int32 := (x &&& 2147483647) - (x &&& 2147483647) / n * n
theorem lowI_n {x : Int32} {n : Nat} (h0 : 0 < n) (hn : n < 2 ^ 31) : ∃ j, j < n ∧ lowI x (nI n) = nI j := by
  unfold lowI
  rw [pk_and x (m := 2147483647) 31 (by decide)]
  have h := Nat.mod_lt x.toBitVec.toNat (Nat.two_pow_pos 31)
  rw [pk_rem h h0 hn]
  exact ⟨_, Nat.mod_lt _ h0, rfl⟩
theorem fl1 (w : va_W) : [w].flatten = w := by simp
theorem fl2 (w u : va_W) : [w, u].flatten = w ++ u := by simp
section QX
variable {l : Launch} {G : GG} {a : Nat} {g : Nat → Nat} {hn : Nat} {F : (Nat → PC) → Prop} {w0 : va_W}
theorem qx_CT {x r : Int32} (h : OBX G a g hn F w0) (ans : ∀ W tn, aCT g W hn tn x = r) : zY l G yX6_count cX6_count 2 (some .int) 7 163 [.ref a, .int x] w0 (.int r) (OBX G a g hn F) := by
  obtain ⟨W, h⟩ := h
  obtain ⟨Qu, hX, hQ⟩ := q_CT (l := l) h (ans W)
  exact ⟨Qu, hX, fun v w q => ⟨(hQ v w q).1, W, (hQ v w q).2⟩⟩
theorem qx_LO {x y : Int32} (h : OBX G a g hn F w0) : zY l G yX6_laneOf cX6_laneOf 3 (some .int) 4 89 [.ref a, .int x, .int y] w0 (.int (aLO g x y)) (OBX G a g hn F) := by
  obtain ⟨W, h⟩ := h
  obtain ⟨Qu, hX, hQ⟩ := q_LO (l := l) (x := x) (y := y) h
  exact ⟨Qu, hX, fun v w q => ⟨(hQ v w q).1, W, (hQ v w q).2⟩⟩
theorem qx_CO {x y r : Int32} (h : OBX G a g hn F w0) (ans : ∀ W, WOK g W → aCO g W x y = r) : zY l G yX6_crossingOf cX6_crossingOf 3 (some .int) 7 163 [.ref a, .int x, .int y] w0 (.int r) (OBX G a g hn F) := by
  obtain ⟨W, h⟩ := h
  obtain ⟨Qu, hX, hQ⟩ := q_CO (l := l) (x := x) (y := y) h
  exact ⟨Qu, hX, fun v w q => ⟨by rw [(hQ v w q).1, ans W (OB_v h).2.2], W, (hQ v w q).2⟩⟩
theorem qx_AO {x y r : Int32} (h : OBX G a g hn F w0) (ans : ∀ W, WOK g W → aAO g W x y = r) : zY l G yX6_alleyOf cX6_alleyOf 3 (some .int) 7 163 [.ref a, .int x, .int y] w0 (.int r) (OBX G a g hn F) := by
  obtain ⟨W, h⟩ := h
  obtain ⟨Qu, hX, hQ⟩ := q_AO (l := l) (x := x) (y := y) h
  exact ⟨Qu, hX, fun v w q => ⟨by rw [(hQ v w q).1, ans W (OB_v h).2.2], W, (hQ v w q).2⟩⟩
end QX
def shr (v k : Int32) : Int32 := v >>> (k &&& 31)
set_option maxRecDepth 100000 in
set_option maxHeartbeats 4000000 in
theorem m_L_low {l : Launch} {G : GG} {x n : Int32} (h : ¬ n = 0) : zX l G yL_low cL_low 2 (some .int) 0 0 0 0 [.int (x), .int (n)] ([]) (zF (some (.int (lowI x n))) []) := by
  refine zj_startF RL (by decide +kernel) rfl rfl rfl (bs := []) (by simp) (lo := [some (.int (x)), some (.int (n))]) rfl ?_
  intro p0 e0 s0 m0 args0 below0 meth0 c0 A0 C hr hlocks
  refine zj_iload_n (pc := 0) C dL_low_0 rfl ?_
  refine zj_ldc (pc := 1) (v := 2147483647) C dL_low_1 aq_402 ?_
  refine zj_iand (pc := 3) C dL_low_3 ?_
  refine zj_iload_n (pc := 4) C dL_low_4 rfl ?_
  refine zj_irem (pc := 5) C dL_low_5 h ?_
  exact zj_iretF C hr hlocks dL_low_6 rfl rfl
set_option maxRecDepth 100000 in
set_option maxHeartbeats 4000000 in
theorem m_L_lowest {l : Launch} {G : GG} {n z : Nat} (hn : n < 16384) (hz : z < 14) (hb : bitB n z = true) (hj : ∀ j, j < z → bitB n j = false) : zX l G yL_lowest cL_lowest 2 (some .int) 0 0 0 0 [.int (nI (n))] ([]) (zF (some (.int (nI z))) []) := by
  refine zj_startF RL (by decide +kernel) rfl rfl rfl (bs := []) (by simp) (lo := [some (.int (nI (n))), none]) rfl ?_
  intro p0 e0 s0 m0 args0 below0 meth0 c0 A0 C hr hlocks
  refine zj_iconst (pc := 0) (v := 0) C dL_lowest_0 (by decide) ?_
  refine zj_istore_n (pc := 1) C dL_lowest_1 (Nat.le_of_ble_eq_true rfl) ?_
  refine zj_keep [true, true] ?_
  refine zj_loopW (σ := Nat) (fun x => x ≤ z) (fun x => z - x) (fun x => []) (fun x => [some (.int (nI n)), some (.int (nI x))]) ?_ 0 (Nat.zero_le _)
  intro k hk ih
  refine zj_eq (bs' := []) (lo' := [some (.int (nI (n))), some (.int (nI (k)))]) rfl rfl rfl ?_
  refine zj_iload_n (pc := 2) C dL_lowest_2 rfl ?_
  have hbk : n / 2 ^ k % 2 < 2 := Nat.mod_lt _ (by decide)
  rcases Nat.lt_or_ge k z with hkz | hkz
  · have hb0 : n / 2 ^ k % 2 = 0 := by have := hj k hkz; unfold bitB at this; simp at this; omega
    refine zj_iload_n (pc := 3) C dL_lowest_3 rfl ?_
    refine zj_ishr (pc := 4) C dL_lowest_4 ?_
    refine zj_iconst (pc := 5) (v := 1) C dL_lowest_5 (by decide) ?_
    refine zj_iand (pc := 6) C dL_lowest_6 ?_
    refine zj_top (x' := nI (n / 2 ^ k % 2)) (nI_bit (by omega) (by omega)) ?_
    refine zj_if_ne (pc := 7) 16 C dL_lowest_7 (by decide) (fun cq_ => absurd ((nI_eq (a := n / 2 ^ k % 2) (b := 0) (by omega) (by omega)).mpr (by omega)) cq_) (fun _ => ?_)
    refine zj_iinc (pc := 10) (v := nI (k + 1)) C dL_lowest_10 rfl (nI_1 _) ?_
    refine zj_goto (pc := 13) (tgt := 2) C dL_lowest_13 (by decide) ?_
    exact ih (k + 1) (by omega) (by omega)
  · have hke : k = z := Nat.le_antisymm hk hkz
    have hb0 : n / 2 ^ k % 2 = 1 := by rw [hke]; unfold bitB at hb; simpa using hb
    refine zj_iload_n (pc := 3) C dL_lowest_3 rfl ?_
    refine zj_ishr (pc := 4) C dL_lowest_4 ?_
    refine zj_iconst (pc := 5) (v := 1) C dL_lowest_5 (by decide) ?_
    refine zj_iand (pc := 6) C dL_lowest_6 ?_
    refine zj_top (x' := nI (n / 2 ^ k % 2)) (nI_bit (by omega) (by omega)) ?_
    refine zj_if_ne (pc := 7) 16 C dL_lowest_7 (by decide) (fun _ => ?_) (fun cq_ => absurd cq_ (mt (nI_eq (a := n / 2 ^ k % 2) (b := 0) (by omega) (by omega)).mp (by omega)))
    refine zj_iload_n (pc := 16) C dL_lowest_16 rfl ?_
    exact zj_iretF C hr hlocks dL_lowest_17 (by rw [hke]) rfl
/-- what an act by a cell answers, and the state that it makes -/
def actW (g : Nat → Nat) (v : Int32) (b : Bool) : Int32 × Option (Nat → Nat) :=
  if 18 ≤ lowI v 32 then
    if 22 ≤ lowI v 32 then
      if 27 ≤ lowI v 32 then
        if 29 ≤ lowI v 32 then (aRk g (lowI (shr v 5) (if b then 8 else 15)) (lowI (shr (shr v 5) 4) (if b then 3 else 12)), gRK g (lowI (shr v 5) (if b then 8 else 15)) (lowI (shr (shr v 5) 4) (if b then 3 else 12)))
        else if lowI v 32 = 27 then (aTL g (lowI (shr v 5) (nI (kL g + 1))), gTL g (lowI (shr v 5) (nI (kL g + 1))))
        else (aTA g (lowI (shr v 5) (nI (kA g + 1))), gTA g (lowI (shr v 5) (nI (kA g + 1))))
      else (aCl g (lowI (shr v 5) (if b then (if nI (kL g) ≤ 0 then nI (kL g + 1) else nI (kL g + 0)) else nI (kL g + 1))) (decide (shr (shr v 5) 6 &&& 1 = 0)), gCS g (lowI (shr v 5) (if b then (if nI (kL g) ≤ 0 then nI (kL g + 1) else nI (kL g + 0)) else nI (kL g + 1))) (decide (shr (shr v 5) 6 &&& 1 = 0)))
    else (aAl (kA g) (lowI (shr v 5) (if b then 8 else 15)) (lowI (shr (shr v 5) 4) (if b then 21 else 24)) (lowI (shr (shr v 5) 7) (if b then 4 else 5)), gAl g (lowI (shr v 5) (if b then 8 else 15)) (lowI (shr (shr v 5) 4) (if b then 21 else 24)) (lowI (shr (shr v 5) 7) (if b then 4 else 5)))
  else (aLn (kL g) (lowI (shr v 5) (if b then 8 else 15)) (lowI (shr (shr v 5) 3) (if b then 8 else 15)) (lowI (shr (shr v 5) 6) (if b then 20 else 24) + (if b then 1 else 0)) (lowI (shr (shr v 5) 9) (if b then 4 else 5)), gLn g (lowI (shr v 5) (if b then 8 else 15)) (lowI (shr (shr v 5) 3) (if b then 8 else 15)) (lowI (shr (shr v 5) 6) (if b then 20 else 24) + (if b then 1 else 0)) (lowI (shr (shr v 5) 9) (if b then 4 else 5)))
def actV (g : Nat → Nat) (v : Int32) : Int32 × Option (Nat → Nat) := if lowI (shr v 22) 7 ≤ 0 then actW g v false else actW g v true
theorem actV_s {g : Nat → Nat} (hv : Vg g) (v : Int32) : AS (actV g v).1 (actV g v).2 := by
  have key : ∀ b, AS (actW g v b).1 (actW g v b).2 := by
    intro b
    unfold actW
    split
    · split
      · split
        · split
          · exact s_RK hv
          · split
            · exact s_TL hv
            · exact s_TA hv
        · exact s_CS hv
      · exact s_AL hv
    · exact s_LN hv
  unfold actV
  split
  · exact key _
  · exact key _
set_option maxRecDepth 100000 in
set_option maxHeartbeats 4000000 in
theorem m_L_act {l : Launch} {G : GG} {a : Nat} {g : Nat → Nat} {hn : Nat} {F : (Nat → PC) → Prop} {w0 : va_W} {v : Int32} (h : OBX G a g hn F w0) : zX l G yL_act cL_act 5 (some .int) 8 184 0 0 [.ref a, .int (v)] (w0) (zQ (.int (actV g v).1) (AP G a g hn F (actV g v).2)) := by
  refine zj_startF RL (by decide +kernel) rfl rfl rfl (bs := [w0]) (by simp) (lo := [some (.ref a), some (.int (v)), none, none, none]) rfl ?_
  intro p0 e0 s0 m0 args0 below0 meth0 c0 A0 C hr hlocks
  have hv := (OBX_v h).1
  have h24 := hv.1
  have h12 := hv.2.1
  refine zj_iload_n (pc := 0) C dL_act_0 rfl ?_
  refine zj_iconst (pc := 1) (v := 5) C dL_act_1 (by decide) ?_
  refine zj_ishr (pc := 2) C dL_act_2 ?_
  refine zj_top (x' := (shr ((v)) 5)) rfl ?_
  refine zj_istore_n (pc := 3) C dL_act_3 (Nat.le_of_ble_eq_true rfl) ?_
  refine zj_iload_n (pc := 4) C dL_act_4 rfl ?_
  refine zj_bipush (pc := 5) (v := 22) C dL_act_5 (by decide) ?_
  refine zj_ishr (pc := 7) C dL_act_7 ?_
  refine zj_top (x' := (shr ((v)) 22)) rfl ?_
  refine zj_bipush (pc := 8) (v := 7) C dL_act_8 (by decide) ?_
  refine zj_callSF (pc := 10) C kv_L_8 (m_L_low (x := (shr ((v)) 22)) (n := (7 : Int32)) (by decide)) dL_act_10 rfl rfl rfl rfl rfl rfl ?_
  refine zj_if_le (pc := 13) 20 C dL_act_13 (by decide) (fun c_13 => ?_) (fun c_13 => ?_)
  · refine zj_iconst (pc := 20) (v := 0) C dL_act_20 (by decide) ?_
    refine zj_istore_n (pc := 21) C dL_act_21 (Nat.le_of_ble_eq_true rfl) ?_
    refine zj_iload_n (pc := 22) C dL_act_22 rfl ?_
    refine zj_bipush (pc := 23) (v := 32) C dL_act_23 (by decide) ?_
    refine zj_callSF (pc := 25) C kv_L_8 (m_L_low (x := (v)) (n := (32 : Int32)) (by decide)) dL_act_25 rfl rfl rfl rfl rfl rfl ?_
    refine zj_istore (pc := 28) C dL_act_28 (Nat.le_of_ble_eq_true rfl) ?_
    refine zj_iload (pc := 30) C dL_act_30 rfl ?_
    refine zj_bipush (pc := 32) (v := 18) C dL_act_32 (by decide) ?_
    refine zj_icmp_ge (pc := 34) 118 C dL_act_34 (by decide) (fun c_34 => ?_) (fun c_34 => ?_)
    · refine zj_iload (pc := 118) C dL_act_118 rfl ?_
      refine zj_bipush (pc := 120) (v := 22) C dL_act_120 (by decide) ?_
      refine zj_icmp_ge (pc := 122) 178 C dL_act_122 (by decide) (fun c_122 => ?_) (fun c_122 => ?_)
      · refine zj_iload (pc := 178) C dL_act_178 rfl ?_
        refine zj_bipush (pc := 180) (v := 27) C dL_act_180 (by decide) ?_
        refine zj_icmp_ge (pc := 182) 231 C dL_act_182 (by decide) (fun c_182 => ?_) (fun c_182 => ?_)
        · refine zj_iload (pc := 231) C dL_act_231 rfl ?_
          refine zj_bipush (pc := 233) (v := 29) C dL_act_233 (by decide) ?_
          refine zj_icmp_ge (pc := 235) 279 C dL_act_235 (by decide) (fun c_235 => ?_) (fun c_235 => ?_)
          · refine zj_aload_n (pc := 279) C dL_act_279 rfl ?_
            refine zj_iload_n (pc := 280) C dL_act_280 rfl ?_
            refine zj_iload_n (pc := 281) C dL_act_281 rfl ?_
            refine zj_if_eq (pc := 282) 290 C dL_act_282 (by decide) (fun _ => ?_) (fun cq_ => absurd (by decide) cq_)
            refine zj_bipush (pc := 290) (v := 15) C dL_act_290 (by decide) ?_
            refine zj_callSF (pc := 292) C kv_L_8 (m_L_low (x := (shr ((v)) 5)) (n := (15 : Int32)) (by decide)) dL_act_292 rfl rfl rfl rfl rfl rfl ?_
            refine zj_iload_n (pc := 295) C dL_act_295 rfl ?_
            refine zj_iconst (pc := 296) (v := 4) C dL_act_296 (by decide) ?_
            refine zj_ishr (pc := 297) C dL_act_297 ?_
            refine zj_top (x' := (shr ((shr ((v)) 5)) 4)) rfl ?_
            refine zj_iload_n (pc := 298) C dL_act_298 rfl ?_
            refine zj_if_eq (pc := 299) 306 C dL_act_299 (by decide) (fun _ => ?_) (fun cq_ => absurd (by decide) cq_)
            refine zj_bipush (pc := 306) (v := 12) C dL_act_306 (by decide) ?_
            refine zj_callSF (pc := 308) C kv_L_8 (m_L_low (x := (shr ((shr ((v)) 5)) 4)) (n := (12 : Int32)) (by decide)) dL_act_308 rfl rfl rfl rfl rfl rfl ?_
            refine zj_callQ (pc := 311) C kv_L_38 (a_RK h) dL_act_311 0 rfl rfl rfl rfl rfl rfl rfl (OBX_rec h) rfl (fun u1 hu1 => ?_)
            refine zj_blk (bs' := [u1]) rfl ?_
            refine zj_iret C hr hlocks dL_act_314 ?_
            rw [fl1]
            unfold actV
            rw [if_pos c_13]
            unfold actW
            rw [if_pos c_34, if_pos c_122, if_pos c_182, if_pos c_235]
            try simp only [if_true, Bool.false_eq_true, if_false]
            exact ⟨rfl, hu1⟩
          · refine zj_iload (pc := 238) C dL_act_238 rfl ?_
            refine zj_bipush (pc := 240) (v := 27) C dL_act_240 (by decide) ?_
            refine zj_icmp_ne (pc := 242) 263 C dL_act_242 (by decide) (fun c_242 => ?_) (fun c_242 => ?_)
            · refine zj_aload_n (pc := 263) C dL_act_263 rfl ?_
              refine zj_iload_n (pc := 264) C dL_act_264 rfl ?_
              refine zj_aload_n (pc := 265) C dL_act_265 rfl ?_
              refine zj_iconst (pc := 266) (v := 2) C dL_act_266 (by decide) ?_
              refine zj_callQ (pc := 267) C kv_L_24 (qx_CT h (fun W tn => v_CT2)) dL_act_267 0 rfl rfl rfl rfl rfl rfl rfl (OBX_rec h) rfl (fun u2 hu2 => ?_)
              refine zj_blk (bs' := [u2]) rfl ?_
              refine zj_iconst (pc := 270) (v := 1) C dL_act_270 (by decide) ?_
              refine zj_iadd (pc := 271) C dL_act_271 ?_
              refine zj_top (x' := nI (kA g + 1)) (nI_add (kA g) (1)) ?_
              refine zj_callSF (pc := 272) C kv_L_8 (m_L_low (x := (shr ((v)) 5)) (n := nI (kA g + 1)) (nI_ne0 (by omega) (by omega))) dL_act_272 rfl rfl rfl rfl rfl rfl ?_
              refine zj_callQ (pc := 275) C kv_L_35 (a_TA hu2) dL_act_275 0 rfl rfl rfl rfl rfl rfl rfl (OBX_rec hu2) rfl (fun u3 hu3 => ?_)
              refine zj_blk (bs' := [u3]) rfl ?_
              refine zj_iret C hr hlocks dL_act_278 ?_
              rw [fl1]
              unfold actV
              rw [if_pos c_13]
              unfold actW
              rw [if_pos c_34, if_pos c_122, if_pos c_182, if_neg c_235, if_neg c_242]
              try simp only [if_true, Bool.false_eq_true, if_false]
              exact ⟨rfl, hu3⟩
            · refine zj_aload_n (pc := 245) C dL_act_245 rfl ?_
              refine zj_iload_n (pc := 246) C dL_act_246 rfl ?_
              refine zj_aload_n (pc := 247) C dL_act_247 rfl ?_
              refine zj_iconst (pc := 248) (v := 0) C dL_act_248 (by decide) ?_
              refine zj_callQ (pc := 249) C kv_L_24 (qx_CT h (fun W tn => v_CT0)) dL_act_249 0 rfl rfl rfl rfl rfl rfl rfl (OBX_rec h) rfl (fun u4 hu4 => ?_)
              refine zj_blk (bs' := [u4]) rfl ?_
              refine zj_iconst (pc := 252) (v := 1) C dL_act_252 (by decide) ?_
              refine zj_iadd (pc := 253) C dL_act_253 ?_
              refine zj_top (x' := nI (kL g + 1)) (nI_add (kL g) (1)) ?_
              refine zj_callSF (pc := 254) C kv_L_8 (m_L_low (x := (shr ((v)) 5)) (n := nI (kL g + 1)) (nI_ne0 (by omega) (by omega))) dL_act_254 rfl rfl rfl rfl rfl rfl ?_
              refine zj_callQ (pc := 257) C kv_L_32 (a_TL hu4) dL_act_257 0 rfl rfl rfl rfl rfl rfl rfl (OBX_rec hu4) rfl (fun u5 hu5 => ?_)
              refine zj_blk (bs' := [u5]) rfl ?_
              refine zj_goto (pc := 260) (tgt := 278) C dL_act_260 (by decide) ?_
              refine zj_iret C hr hlocks dL_act_278 ?_
              rw [fl1]
              unfold actV
              rw [if_pos c_13]
              unfold actW
              rw [if_pos c_34, if_pos c_122, if_pos c_182, if_neg c_235, if_pos c_242]
              try simp only [if_true, Bool.false_eq_true, if_false]
              exact ⟨rfl, hu5⟩
        · refine zj_aload_n (pc := 185) C dL_act_185 rfl ?_
          refine zj_iload_n (pc := 186) C dL_act_186 rfl ?_
          refine zj_aload_n (pc := 187) C dL_act_187 rfl ?_
          refine zj_iconst (pc := 188) (v := 0) C dL_act_188 (by decide) ?_
          refine zj_callQ (pc := 189) C kv_L_24 (qx_CT h (fun W tn => v_CT0)) dL_act_189 0 rfl rfl rfl rfl rfl rfl rfl (OBX_rec h) rfl (fun u6 hu6 => ?_)
          refine zj_blk (bs' := [u6]) rfl ?_
          refine zj_iload_n (pc := 192) C dL_act_192 rfl ?_
          refine zj_if_eq (pc := 193) 208 C dL_act_193 (by decide) (fun _ => ?_) (fun cq_ => absurd (by decide) cq_)
          refine zj_iconst (pc := 208) (v := 1) C dL_act_208 (by decide) ?_
          refine zj_iadd (pc := 209) C dL_act_209 ?_
          refine zj_top (x' := nI (kL g + 1)) (nI_add (kL g) (1)) ?_
          refine zj_callSF (pc := 210) C kv_L_8 (m_L_low (x := (shr ((v)) 5)) (n := nI (kL g + 1)) (nI_ne0 (by omega) (by omega))) dL_act_210 rfl rfl rfl rfl rfl rfl ?_
          refine zj_iload_n (pc := 213) C dL_act_213 rfl ?_
          refine zj_bipush (pc := 214) (v := 6) C dL_act_214 (by decide) ?_
          refine zj_ishr (pc := 216) C dL_act_216 ?_
          refine zj_top (x' := (shr ((shr ((v)) 5)) 6)) rfl ?_
          refine zj_iconst (pc := 217) (v := 1) C dL_act_217 (by decide) ?_
          refine zj_iand (pc := 218) C dL_act_218 ?_
          refine zj_if_ne (pc := 219) 226 C dL_act_219 (by decide) (fun c_219 => ?_) (fun c_219 => ?_)
          · refine zj_iconst (pc := 226) (v := 0) C dL_act_226 (by decide) ?_
            refine zj_callQ (pc := 227) C kv_L_28 (a_CS (b := false) hu6) dL_act_227 0 rfl rfl rfl rfl rfl rfl rfl (OBX_rec hu6) rfl (fun u7 hu7 => ?_)
            refine zj_blk (bs' := [u7]) rfl ?_
            refine zj_iret C hr hlocks dL_act_230 ?_
            rw [fl1]
            unfold actV
            rw [if_pos c_13]
            unfold actW
            rw [if_pos c_34, if_pos c_122, if_neg c_182]
            try simp only [if_true, Bool.false_eq_true, if_false]
            rw [decide_eq_false c_219]
            exact ⟨rfl, hu7⟩
          · refine zj_iconst (pc := 222) (v := 1) C dL_act_222 (by decide) ?_
            refine zj_goto (pc := 223) (tgt := 227) C dL_act_223 (by decide) ?_
            refine zj_callQ (pc := 227) C kv_L_28 (a_CS (b := true) hu6) dL_act_227 0 rfl rfl rfl rfl rfl rfl rfl (OBX_rec hu6) rfl (fun u8 hu8 => ?_)
            refine zj_blk (bs' := [u8]) rfl ?_
            refine zj_iret C hr hlocks dL_act_230 ?_
            rw [fl1]
            unfold actV
            rw [if_pos c_13]
            unfold actW
            rw [if_pos c_34, if_pos c_122, if_neg c_182]
            try simp only [if_true, Bool.false_eq_true, if_false]
            rw [decide_eq_true c_219]
            exact ⟨rfl, hu8⟩
      · refine zj_aload_n (pc := 125) C dL_act_125 rfl ?_
        refine zj_iload_n (pc := 126) C dL_act_126 rfl ?_
        refine zj_iload_n (pc := 127) C dL_act_127 rfl ?_
        refine zj_if_eq (pc := 128) 136 C dL_act_128 (by decide) (fun _ => ?_) (fun cq_ => absurd (by decide) cq_)
        refine zj_bipush (pc := 136) (v := 15) C dL_act_136 (by decide) ?_
        refine zj_callSF (pc := 138) C kv_L_8 (m_L_low (x := (shr ((v)) 5)) (n := (15 : Int32)) (by decide)) dL_act_138 rfl rfl rfl rfl rfl rfl ?_
        refine zj_iload_n (pc := 141) C dL_act_141 rfl ?_
        refine zj_iconst (pc := 142) (v := 4) C dL_act_142 (by decide) ?_
        refine zj_ishr (pc := 143) C dL_act_143 ?_
        refine zj_top (x' := (shr ((shr ((v)) 5)) 4)) rfl ?_
        refine zj_iload_n (pc := 144) C dL_act_144 rfl ?_
        refine zj_if_eq (pc := 145) 153 C dL_act_145 (by decide) (fun _ => ?_) (fun cq_ => absurd (by decide) cq_)
        refine zj_bipush (pc := 153) (v := 24) C dL_act_153 (by decide) ?_
        refine zj_callSF (pc := 155) C kv_L_8 (m_L_low (x := (shr ((shr ((v)) 5)) 4)) (n := (24 : Int32)) (by decide)) dL_act_155 rfl rfl rfl rfl rfl rfl ?_
        refine zj_iload_n (pc := 158) C dL_act_158 rfl ?_
        refine zj_bipush (pc := 159) (v := 7) C dL_act_159 (by decide) ?_
        refine zj_ishr (pc := 161) C dL_act_161 ?_
        refine zj_top (x' := (shr ((shr ((v)) 5)) 7)) rfl ?_
        refine zj_iload_n (pc := 162) C dL_act_162 rfl ?_
        refine zj_if_eq (pc := 163) 170 C dL_act_163 (by decide) (fun _ => ?_) (fun cq_ => absurd (by decide) cq_)
        refine zj_iconst (pc := 170) (v := 5) C dL_act_170 (by decide) ?_
        refine zj_callSF (pc := 171) C kv_L_8 (m_L_low (x := (shr ((shr ((v)) 5)) 7)) (n := (5 : Int32)) (by decide)) dL_act_171 rfl rfl rfl rfl rfl rfl ?_
        refine zj_callQ (pc := 174) C kv_L_20 (a_AL h) dL_act_174 0 rfl rfl rfl rfl rfl rfl rfl (OBX_rec h) rfl (fun u9 hu9 => ?_)
        refine zj_blk (bs' := [u9]) rfl ?_
        refine zj_iret C hr hlocks dL_act_177 ?_
        rw [fl1]
        unfold actV
        rw [if_pos c_13]
        unfold actW
        rw [if_pos c_34, if_neg c_122]
        try simp only [if_true, Bool.false_eq_true, if_false]
        exact ⟨rfl, hu9⟩
    · refine zj_aload_n (pc := 37) C dL_act_37 rfl ?_
      refine zj_iload_n (pc := 38) C dL_act_38 rfl ?_
      refine zj_iload_n (pc := 39) C dL_act_39 rfl ?_
      refine zj_if_eq (pc := 40) 48 C dL_act_40 (by decide) (fun _ => ?_) (fun cq_ => absurd (by decide) cq_)
      refine zj_bipush (pc := 48) (v := 15) C dL_act_48 (by decide) ?_
      refine zj_callSF (pc := 50) C kv_L_8 (m_L_low (x := (shr ((v)) 5)) (n := (15 : Int32)) (by decide)) dL_act_50 rfl rfl rfl rfl rfl rfl ?_
      refine zj_iload_n (pc := 53) C dL_act_53 rfl ?_
      refine zj_iconst (pc := 54) (v := 3) C dL_act_54 (by decide) ?_
      refine zj_ishr (pc := 55) C dL_act_55 ?_
      refine zj_top (x' := (shr ((shr ((v)) 5)) 3)) rfl ?_
      refine zj_iload_n (pc := 56) C dL_act_56 rfl ?_
      refine zj_if_eq (pc := 57) 65 C dL_act_57 (by decide) (fun _ => ?_) (fun cq_ => absurd (by decide) cq_)
      refine zj_bipush (pc := 65) (v := 15) C dL_act_65 (by decide) ?_
      refine zj_callSF (pc := 67) C kv_L_8 (m_L_low (x := (shr ((shr ((v)) 5)) 3)) (n := (15 : Int32)) (by decide)) dL_act_67 rfl rfl rfl rfl rfl rfl ?_
      refine zj_iload_n (pc := 70) C dL_act_70 rfl ?_
      refine zj_bipush (pc := 71) (v := 6) C dL_act_71 (by decide) ?_
      refine zj_ishr (pc := 73) C dL_act_73 ?_
      refine zj_top (x' := (shr ((shr ((v)) 5)) 6)) rfl ?_
      refine zj_iload_n (pc := 74) C dL_act_74 rfl ?_
      refine zj_if_eq (pc := 75) 83 C dL_act_75 (by decide) (fun _ => ?_) (fun cq_ => absurd (by decide) cq_)
      refine zj_bipush (pc := 83) (v := 24) C dL_act_83 (by decide) ?_
      refine zj_callSF (pc := 85) C kv_L_8 (m_L_low (x := (shr ((shr ((v)) 5)) 6)) (n := (24 : Int32)) (by decide)) dL_act_85 rfl rfl rfl rfl rfl rfl ?_
      refine zj_iload_n (pc := 88) C dL_act_88 rfl ?_
      refine zj_if_eq (pc := 89) 96 C dL_act_89 (by decide) (fun _ => ?_) (fun cq_ => absurd (by decide) cq_)
      refine zj_iconst (pc := 96) (v := 0) C dL_act_96 (by decide) ?_
      refine zj_iadd (pc := 97) C dL_act_97 ?_
      refine zj_iload_n (pc := 98) C dL_act_98 rfl ?_
      refine zj_bipush (pc := 99) (v := 9) C dL_act_99 (by decide) ?_
      refine zj_ishr (pc := 101) C dL_act_101 ?_
      refine zj_top (x' := (shr ((shr ((v)) 5)) 9)) rfl ?_
      refine zj_iload_n (pc := 102) C dL_act_102 rfl ?_
      refine zj_if_eq (pc := 103) 110 C dL_act_103 (by decide) (fun _ => ?_) (fun cq_ => absurd (by decide) cq_)
      refine zj_iconst (pc := 110) (v := 5) C dL_act_110 (by decide) ?_
      refine zj_callSF (pc := 111) C kv_L_8 (m_L_low (x := (shr ((shr ((v)) 5)) 9)) (n := (5 : Int32)) (by decide)) dL_act_111 rfl rfl rfl rfl rfl rfl ?_
      refine zj_callQ (pc := 114) C kv_L_14 (a_LN h) dL_act_114 0 rfl rfl rfl rfl rfl rfl rfl (OBX_rec h) rfl (fun u10 hu10 => ?_)
      refine zj_blk (bs' := [u10]) rfl ?_
      refine zj_iret C hr hlocks dL_act_117 ?_
      rw [fl1]
      unfold actV
      rw [if_pos c_13]
      unfold actW
      rw [if_neg c_34]
      try simp only [if_true, Bool.false_eq_true, if_false]
      exact ⟨rfl, hu10⟩
  · refine zj_iconst (pc := 16) (v := 1) C dL_act_16 (by decide) ?_
    refine zj_goto (pc := 17) (tgt := 21) C dL_act_17 (by decide) ?_
    refine zj_istore_n (pc := 21) C dL_act_21 (Nat.le_of_ble_eq_true rfl) ?_
    refine zj_iload_n (pc := 22) C dL_act_22 rfl ?_
    refine zj_bipush (pc := 23) (v := 32) C dL_act_23 (by decide) ?_
    refine zj_callSF (pc := 25) C kv_L_8 (m_L_low (x := (v)) (n := (32 : Int32)) (by decide)) dL_act_25 rfl rfl rfl rfl rfl rfl ?_
    refine zj_istore (pc := 28) C dL_act_28 (Nat.le_of_ble_eq_true rfl) ?_
    refine zj_iload (pc := 30) C dL_act_30 rfl ?_
    refine zj_bipush (pc := 32) (v := 18) C dL_act_32 (by decide) ?_
    refine zj_icmp_ge (pc := 34) 118 C dL_act_34 (by decide) (fun c_34 => ?_) (fun c_34 => ?_)
    · refine zj_iload (pc := 118) C dL_act_118 rfl ?_
      refine zj_bipush (pc := 120) (v := 22) C dL_act_120 (by decide) ?_
      refine zj_icmp_ge (pc := 122) 178 C dL_act_122 (by decide) (fun c_122 => ?_) (fun c_122 => ?_)
      · refine zj_iload (pc := 178) C dL_act_178 rfl ?_
        refine zj_bipush (pc := 180) (v := 27) C dL_act_180 (by decide) ?_
        refine zj_icmp_ge (pc := 182) 231 C dL_act_182 (by decide) (fun c_182 => ?_) (fun c_182 => ?_)
        · refine zj_iload (pc := 231) C dL_act_231 rfl ?_
          refine zj_bipush (pc := 233) (v := 29) C dL_act_233 (by decide) ?_
          refine zj_icmp_ge (pc := 235) 279 C dL_act_235 (by decide) (fun c_235 => ?_) (fun c_235 => ?_)
          · refine zj_aload_n (pc := 279) C dL_act_279 rfl ?_
            refine zj_iload_n (pc := 280) C dL_act_280 rfl ?_
            refine zj_iload_n (pc := 281) C dL_act_281 rfl ?_
            refine zj_if_eq (pc := 282) 290 C dL_act_282 (by decide) (fun cq_ => absurd cq_ (by decide)) (fun _ => ?_)
            refine zj_bipush (pc := 285) (v := 8) C dL_act_285 (by decide) ?_
            refine zj_goto (pc := 287) (tgt := 292) C dL_act_287 (by decide) ?_
            refine zj_callSF (pc := 292) C kv_L_8 (m_L_low (x := (shr ((v)) 5)) (n := (8 : Int32)) (by decide)) dL_act_292 rfl rfl rfl rfl rfl rfl ?_
            refine zj_iload_n (pc := 295) C dL_act_295 rfl ?_
            refine zj_iconst (pc := 296) (v := 4) C dL_act_296 (by decide) ?_
            refine zj_ishr (pc := 297) C dL_act_297 ?_
            refine zj_top (x' := (shr ((shr ((v)) 5)) 4)) rfl ?_
            refine zj_iload_n (pc := 298) C dL_act_298 rfl ?_
            refine zj_if_eq (pc := 299) 306 C dL_act_299 (by decide) (fun cq_ => absurd cq_ (by decide)) (fun _ => ?_)
            refine zj_iconst (pc := 302) (v := 3) C dL_act_302 (by decide) ?_
            refine zj_goto (pc := 303) (tgt := 308) C dL_act_303 (by decide) ?_
            refine zj_callSF (pc := 308) C kv_L_8 (m_L_low (x := (shr ((shr ((v)) 5)) 4)) (n := (3 : Int32)) (by decide)) dL_act_308 rfl rfl rfl rfl rfl rfl ?_
            refine zj_callQ (pc := 311) C kv_L_38 (a_RK h) dL_act_311 0 rfl rfl rfl rfl rfl rfl rfl (OBX_rec h) rfl (fun u11 hu11 => ?_)
            refine zj_blk (bs' := [u11]) rfl ?_
            refine zj_iret C hr hlocks dL_act_314 ?_
            rw [fl1]
            unfold actV
            rw [if_neg c_13]
            unfold actW
            rw [if_pos c_34, if_pos c_122, if_pos c_182, if_pos c_235]
            try simp only [if_true, Bool.false_eq_true, if_false]
            exact ⟨rfl, hu11⟩
          · refine zj_iload (pc := 238) C dL_act_238 rfl ?_
            refine zj_bipush (pc := 240) (v := 27) C dL_act_240 (by decide) ?_
            refine zj_icmp_ne (pc := 242) 263 C dL_act_242 (by decide) (fun c_242 => ?_) (fun c_242 => ?_)
            · refine zj_aload_n (pc := 263) C dL_act_263 rfl ?_
              refine zj_iload_n (pc := 264) C dL_act_264 rfl ?_
              refine zj_aload_n (pc := 265) C dL_act_265 rfl ?_
              refine zj_iconst (pc := 266) (v := 2) C dL_act_266 (by decide) ?_
              refine zj_callQ (pc := 267) C kv_L_24 (qx_CT h (fun W tn => v_CT2)) dL_act_267 0 rfl rfl rfl rfl rfl rfl rfl (OBX_rec h) rfl (fun u12 hu12 => ?_)
              refine zj_blk (bs' := [u12]) rfl ?_
              refine zj_iconst (pc := 270) (v := 1) C dL_act_270 (by decide) ?_
              refine zj_iadd (pc := 271) C dL_act_271 ?_
              refine zj_top (x' := nI (kA g + 1)) (nI_add (kA g) (1)) ?_
              refine zj_callSF (pc := 272) C kv_L_8 (m_L_low (x := (shr ((v)) 5)) (n := nI (kA g + 1)) (nI_ne0 (by omega) (by omega))) dL_act_272 rfl rfl rfl rfl rfl rfl ?_
              refine zj_callQ (pc := 275) C kv_L_35 (a_TA hu12) dL_act_275 0 rfl rfl rfl rfl rfl rfl rfl (OBX_rec hu12) rfl (fun u13 hu13 => ?_)
              refine zj_blk (bs' := [u13]) rfl ?_
              refine zj_iret C hr hlocks dL_act_278 ?_
              rw [fl1]
              unfold actV
              rw [if_neg c_13]
              unfold actW
              rw [if_pos c_34, if_pos c_122, if_pos c_182, if_neg c_235, if_neg c_242]
              try simp only [if_true, Bool.false_eq_true, if_false]
              exact ⟨rfl, hu13⟩
            · refine zj_aload_n (pc := 245) C dL_act_245 rfl ?_
              refine zj_iload_n (pc := 246) C dL_act_246 rfl ?_
              refine zj_aload_n (pc := 247) C dL_act_247 rfl ?_
              refine zj_iconst (pc := 248) (v := 0) C dL_act_248 (by decide) ?_
              refine zj_callQ (pc := 249) C kv_L_24 (qx_CT h (fun W tn => v_CT0)) dL_act_249 0 rfl rfl rfl rfl rfl rfl rfl (OBX_rec h) rfl (fun u14 hu14 => ?_)
              refine zj_blk (bs' := [u14]) rfl ?_
              refine zj_iconst (pc := 252) (v := 1) C dL_act_252 (by decide) ?_
              refine zj_iadd (pc := 253) C dL_act_253 ?_
              refine zj_top (x' := nI (kL g + 1)) (nI_add (kL g) (1)) ?_
              refine zj_callSF (pc := 254) C kv_L_8 (m_L_low (x := (shr ((v)) 5)) (n := nI (kL g + 1)) (nI_ne0 (by omega) (by omega))) dL_act_254 rfl rfl rfl rfl rfl rfl ?_
              refine zj_callQ (pc := 257) C kv_L_32 (a_TL hu14) dL_act_257 0 rfl rfl rfl rfl rfl rfl rfl (OBX_rec hu14) rfl (fun u15 hu15 => ?_)
              refine zj_blk (bs' := [u15]) rfl ?_
              refine zj_goto (pc := 260) (tgt := 278) C dL_act_260 (by decide) ?_
              refine zj_iret C hr hlocks dL_act_278 ?_
              rw [fl1]
              unfold actV
              rw [if_neg c_13]
              unfold actW
              rw [if_pos c_34, if_pos c_122, if_pos c_182, if_neg c_235, if_pos c_242]
              try simp only [if_true, Bool.false_eq_true, if_false]
              exact ⟨rfl, hu15⟩
        · refine zj_aload_n (pc := 185) C dL_act_185 rfl ?_
          refine zj_iload_n (pc := 186) C dL_act_186 rfl ?_
          refine zj_aload_n (pc := 187) C dL_act_187 rfl ?_
          refine zj_iconst (pc := 188) (v := 0) C dL_act_188 (by decide) ?_
          refine zj_callQ (pc := 189) C kv_L_24 (qx_CT h (fun W tn => v_CT0)) dL_act_189 0 rfl rfl rfl rfl rfl rfl rfl (OBX_rec h) rfl (fun u16 hu16 => ?_)
          refine zj_blk (bs' := [u16]) rfl ?_
          refine zj_iload_n (pc := 192) C dL_act_192 rfl ?_
          refine zj_if_eq (pc := 193) 208 C dL_act_193 (by decide) (fun cq_ => absurd cq_ (by decide)) (fun _ => ?_)
          refine zj_aload_n (pc := 196) C dL_act_196 rfl ?_
          refine zj_iconst (pc := 197) (v := 0) C dL_act_197 (by decide) ?_
          refine zj_callQ (pc := 198) C kv_L_24 (qx_CT hu16 (fun W tn => v_CT0)) dL_act_198 0 rfl rfl rfl rfl rfl rfl rfl (OBX_rec hu16) rfl (fun u17 hu17 => ?_)
          refine zj_blk (bs' := [u17]) rfl ?_
          refine zj_if_le (pc := 201) 208 C dL_act_201 (by decide) (fun c_201 => ?_) (fun c_201 => ?_)
          · refine zj_iconst (pc := 208) (v := 1) C dL_act_208 (by decide) ?_
            refine zj_iadd (pc := 209) C dL_act_209 ?_
            refine zj_top (x' := nI (kL g + 1)) (nI_add (kL g) (1)) ?_
            refine zj_callSF (pc := 210) C kv_L_8 (m_L_low (x := (shr ((v)) 5)) (n := nI (kL g + 1)) (nI_ne0 (by omega) (by omega))) dL_act_210 rfl rfl rfl rfl rfl rfl ?_
            refine zj_iload_n (pc := 213) C dL_act_213 rfl ?_
            refine zj_bipush (pc := 214) (v := 6) C dL_act_214 (by decide) ?_
            refine zj_ishr (pc := 216) C dL_act_216 ?_
            refine zj_top (x' := (shr ((shr ((v)) 5)) 6)) rfl ?_
            refine zj_iconst (pc := 217) (v := 1) C dL_act_217 (by decide) ?_
            refine zj_iand (pc := 218) C dL_act_218 ?_
            refine zj_if_ne (pc := 219) 226 C dL_act_219 (by decide) (fun c_219 => ?_) (fun c_219 => ?_)
            · refine zj_iconst (pc := 226) (v := 0) C dL_act_226 (by decide) ?_
              refine zj_callQ (pc := 227) C kv_L_28 (a_CS (b := false) hu17) dL_act_227 0 rfl rfl rfl rfl rfl rfl rfl (OBX_rec hu17) rfl (fun u18 hu18 => ?_)
              refine zj_blk (bs' := [u18]) rfl ?_
              refine zj_iret C hr hlocks dL_act_230 ?_
              rw [fl1]
              unfold actV
              rw [if_neg c_13]
              unfold actW
              rw [if_pos c_34, if_pos c_122, if_neg c_182]
              try simp only [if_true, Bool.false_eq_true, if_false]
              rw [if_pos c_201]
              rw [decide_eq_false c_219]
              exact ⟨rfl, hu18⟩
            · refine zj_iconst (pc := 222) (v := 1) C dL_act_222 (by decide) ?_
              refine zj_goto (pc := 223) (tgt := 227) C dL_act_223 (by decide) ?_
              refine zj_callQ (pc := 227) C kv_L_28 (a_CS (b := true) hu17) dL_act_227 0 rfl rfl rfl rfl rfl rfl rfl (OBX_rec hu17) rfl (fun u19 hu19 => ?_)
              refine zj_blk (bs' := [u19]) rfl ?_
              refine zj_iret C hr hlocks dL_act_230 ?_
              rw [fl1]
              unfold actV
              rw [if_neg c_13]
              unfold actW
              rw [if_pos c_34, if_pos c_122, if_neg c_182]
              try simp only [if_true, Bool.false_eq_true, if_false]
              rw [if_pos c_201]
              rw [decide_eq_true c_219]
              exact ⟨rfl, hu19⟩
          · refine zj_iconst (pc := 204) (v := 0) C dL_act_204 (by decide) ?_
            refine zj_goto (pc := 205) (tgt := 209) C dL_act_205 (by decide) ?_
            refine zj_iadd (pc := 209) C dL_act_209 ?_
            refine zj_top (x' := nI (kL g + 0)) (nI_add (kL g) (0)) ?_
            refine zj_callSF (pc := 210) C kv_L_8 (m_L_low (x := (shr ((v)) 5)) (n := nI (kL g + 0)) (fun q => c_201 (by rw [show nI (kL g) = 0 from q]; decide))) dL_act_210 rfl rfl rfl rfl rfl rfl ?_
            refine zj_iload_n (pc := 213) C dL_act_213 rfl ?_
            refine zj_bipush (pc := 214) (v := 6) C dL_act_214 (by decide) ?_
            refine zj_ishr (pc := 216) C dL_act_216 ?_
            refine zj_top (x' := (shr ((shr ((v)) 5)) 6)) rfl ?_
            refine zj_iconst (pc := 217) (v := 1) C dL_act_217 (by decide) ?_
            refine zj_iand (pc := 218) C dL_act_218 ?_
            refine zj_if_ne (pc := 219) 226 C dL_act_219 (by decide) (fun c_219 => ?_) (fun c_219 => ?_)
            · refine zj_iconst (pc := 226) (v := 0) C dL_act_226 (by decide) ?_
              refine zj_callQ (pc := 227) C kv_L_28 (a_CS (b := false) hu17) dL_act_227 0 rfl rfl rfl rfl rfl rfl rfl (OBX_rec hu17) rfl (fun u20 hu20 => ?_)
              refine zj_blk (bs' := [u20]) rfl ?_
              refine zj_iret C hr hlocks dL_act_230 ?_
              rw [fl1]
              unfold actV
              rw [if_neg c_13]
              unfold actW
              rw [if_pos c_34, if_pos c_122, if_neg c_182]
              try simp only [if_true, Bool.false_eq_true, if_false]
              rw [if_neg c_201]
              rw [decide_eq_false c_219]
              exact ⟨rfl, hu20⟩
            · refine zj_iconst (pc := 222) (v := 1) C dL_act_222 (by decide) ?_
              refine zj_goto (pc := 223) (tgt := 227) C dL_act_223 (by decide) ?_
              refine zj_callQ (pc := 227) C kv_L_28 (a_CS (b := true) hu17) dL_act_227 0 rfl rfl rfl rfl rfl rfl rfl (OBX_rec hu17) rfl (fun u21 hu21 => ?_)
              refine zj_blk (bs' := [u21]) rfl ?_
              refine zj_iret C hr hlocks dL_act_230 ?_
              rw [fl1]
              unfold actV
              rw [if_neg c_13]
              unfold actW
              rw [if_pos c_34, if_pos c_122, if_neg c_182]
              try simp only [if_true, Bool.false_eq_true, if_false]
              rw [if_neg c_201]
              rw [decide_eq_true c_219]
              exact ⟨rfl, hu21⟩
      · refine zj_aload_n (pc := 125) C dL_act_125 rfl ?_
        refine zj_iload_n (pc := 126) C dL_act_126 rfl ?_
        refine zj_iload_n (pc := 127) C dL_act_127 rfl ?_
        refine zj_if_eq (pc := 128) 136 C dL_act_128 (by decide) (fun cq_ => absurd cq_ (by decide)) (fun _ => ?_)
        refine zj_bipush (pc := 131) (v := 8) C dL_act_131 (by decide) ?_
        refine zj_goto (pc := 133) (tgt := 138) C dL_act_133 (by decide) ?_
        refine zj_callSF (pc := 138) C kv_L_8 (m_L_low (x := (shr ((v)) 5)) (n := (8 : Int32)) (by decide)) dL_act_138 rfl rfl rfl rfl rfl rfl ?_
        refine zj_iload_n (pc := 141) C dL_act_141 rfl ?_
        refine zj_iconst (pc := 142) (v := 4) C dL_act_142 (by decide) ?_
        refine zj_ishr (pc := 143) C dL_act_143 ?_
        refine zj_top (x' := (shr ((shr ((v)) 5)) 4)) rfl ?_
        refine zj_iload_n (pc := 144) C dL_act_144 rfl ?_
        refine zj_if_eq (pc := 145) 153 C dL_act_145 (by decide) (fun cq_ => absurd cq_ (by decide)) (fun _ => ?_)
        refine zj_bipush (pc := 148) (v := 21) C dL_act_148 (by decide) ?_
        refine zj_goto (pc := 150) (tgt := 155) C dL_act_150 (by decide) ?_
        refine zj_callSF (pc := 155) C kv_L_8 (m_L_low (x := (shr ((shr ((v)) 5)) 4)) (n := (21 : Int32)) (by decide)) dL_act_155 rfl rfl rfl rfl rfl rfl ?_
        refine zj_iload_n (pc := 158) C dL_act_158 rfl ?_
        refine zj_bipush (pc := 159) (v := 7) C dL_act_159 (by decide) ?_
        refine zj_ishr (pc := 161) C dL_act_161 ?_
        refine zj_top (x' := (shr ((shr ((v)) 5)) 7)) rfl ?_
        refine zj_iload_n (pc := 162) C dL_act_162 rfl ?_
        refine zj_if_eq (pc := 163) 170 C dL_act_163 (by decide) (fun cq_ => absurd cq_ (by decide)) (fun _ => ?_)
        refine zj_iconst (pc := 166) (v := 4) C dL_act_166 (by decide) ?_
        refine zj_goto (pc := 167) (tgt := 171) C dL_act_167 (by decide) ?_
        refine zj_callSF (pc := 171) C kv_L_8 (m_L_low (x := (shr ((shr ((v)) 5)) 7)) (n := (4 : Int32)) (by decide)) dL_act_171 rfl rfl rfl rfl rfl rfl ?_
        refine zj_callQ (pc := 174) C kv_L_20 (a_AL h) dL_act_174 0 rfl rfl rfl rfl rfl rfl rfl (OBX_rec h) rfl (fun u22 hu22 => ?_)
        refine zj_blk (bs' := [u22]) rfl ?_
        refine zj_iret C hr hlocks dL_act_177 ?_
        rw [fl1]
        unfold actV
        rw [if_neg c_13]
        unfold actW
        rw [if_pos c_34, if_neg c_122]
        try simp only [if_true, Bool.false_eq_true, if_false]
        exact ⟨rfl, hu22⟩
    · refine zj_aload_n (pc := 37) C dL_act_37 rfl ?_
      refine zj_iload_n (pc := 38) C dL_act_38 rfl ?_
      refine zj_iload_n (pc := 39) C dL_act_39 rfl ?_
      refine zj_if_eq (pc := 40) 48 C dL_act_40 (by decide) (fun cq_ => absurd cq_ (by decide)) (fun _ => ?_)
      refine zj_bipush (pc := 43) (v := 8) C dL_act_43 (by decide) ?_
      refine zj_goto (pc := 45) (tgt := 50) C dL_act_45 (by decide) ?_
      refine zj_callSF (pc := 50) C kv_L_8 (m_L_low (x := (shr ((v)) 5)) (n := (8 : Int32)) (by decide)) dL_act_50 rfl rfl rfl rfl rfl rfl ?_
      refine zj_iload_n (pc := 53) C dL_act_53 rfl ?_
      refine zj_iconst (pc := 54) (v := 3) C dL_act_54 (by decide) ?_
      refine zj_ishr (pc := 55) C dL_act_55 ?_
      refine zj_top (x' := (shr ((shr ((v)) 5)) 3)) rfl ?_
      refine zj_iload_n (pc := 56) C dL_act_56 rfl ?_
      refine zj_if_eq (pc := 57) 65 C dL_act_57 (by decide) (fun cq_ => absurd cq_ (by decide)) (fun _ => ?_)
      refine zj_bipush (pc := 60) (v := 8) C dL_act_60 (by decide) ?_
      refine zj_goto (pc := 62) (tgt := 67) C dL_act_62 (by decide) ?_
      refine zj_callSF (pc := 67) C kv_L_8 (m_L_low (x := (shr ((shr ((v)) 5)) 3)) (n := (8 : Int32)) (by decide)) dL_act_67 rfl rfl rfl rfl rfl rfl ?_
      refine zj_iload_n (pc := 70) C dL_act_70 rfl ?_
      refine zj_bipush (pc := 71) (v := 6) C dL_act_71 (by decide) ?_
      refine zj_ishr (pc := 73) C dL_act_73 ?_
      refine zj_top (x' := (shr ((shr ((v)) 5)) 6)) rfl ?_
      refine zj_iload_n (pc := 74) C dL_act_74 rfl ?_
      refine zj_if_eq (pc := 75) 83 C dL_act_75 (by decide) (fun cq_ => absurd cq_ (by decide)) (fun _ => ?_)
      refine zj_bipush (pc := 78) (v := 20) C dL_act_78 (by decide) ?_
      refine zj_goto (pc := 80) (tgt := 85) C dL_act_80 (by decide) ?_
      refine zj_callSF (pc := 85) C kv_L_8 (m_L_low (x := (shr ((shr ((v)) 5)) 6)) (n := (20 : Int32)) (by decide)) dL_act_85 rfl rfl rfl rfl rfl rfl ?_
      refine zj_iload_n (pc := 88) C dL_act_88 rfl ?_
      refine zj_if_eq (pc := 89) 96 C dL_act_89 (by decide) (fun cq_ => absurd cq_ (by decide)) (fun _ => ?_)
      refine zj_iconst (pc := 92) (v := 1) C dL_act_92 (by decide) ?_
      refine zj_goto (pc := 93) (tgt := 97) C dL_act_93 (by decide) ?_
      refine zj_iadd (pc := 97) C dL_act_97 ?_
      refine zj_iload_n (pc := 98) C dL_act_98 rfl ?_
      refine zj_bipush (pc := 99) (v := 9) C dL_act_99 (by decide) ?_
      refine zj_ishr (pc := 101) C dL_act_101 ?_
      refine zj_top (x' := (shr ((shr ((v)) 5)) 9)) rfl ?_
      refine zj_iload_n (pc := 102) C dL_act_102 rfl ?_
      refine zj_if_eq (pc := 103) 110 C dL_act_103 (by decide) (fun cq_ => absurd cq_ (by decide)) (fun _ => ?_)
      refine zj_iconst (pc := 106) (v := 4) C dL_act_106 (by decide) ?_
      refine zj_goto (pc := 107) (tgt := 111) C dL_act_107 (by decide) ?_
      refine zj_callSF (pc := 111) C kv_L_8 (m_L_low (x := (shr ((shr ((v)) 5)) 9)) (n := (4 : Int32)) (by decide)) dL_act_111 rfl rfl rfl rfl rfl rfl ?_
      refine zj_callQ (pc := 114) C kv_L_14 (a_LN h) dL_act_114 0 rfl rfl rfl rfl rfl rfl rfl (OBX_rec h) rfl (fun u23 hu23 => ?_)
      refine zj_blk (bs' := [u23]) rfl ?_
      refine zj_iret C hr hlocks dL_act_117 ?_
      rw [fl1]
      unfold actV
      rw [if_neg c_13]
      unfold actW
      rw [if_neg c_34]
      try simp only [if_true, Bool.false_eq_true, if_false]
      exact ⟨rfl, hu23⟩
