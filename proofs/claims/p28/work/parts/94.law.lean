/-! THE LAW -/
theorem AS_n2 {r : Int32} (h : AS r none) : r < 0 := by
  unfold AS at h
  rwa [if_pos rfl] at h
theorem AS_s2 {r : Int32} {g : Nat → Nat} (h : AS r (some g)) : ¬ r < 0 := by
  unfold AS at h
  rwa [if_neg (fun q => by cases q)] at h
section ZLOOP
variable {p : Program} {l : Launch} {e : Env} {s : State} {m : MethodId} {args : Array Value} {below : List Frame} {meth : Method} {c : Code} {G : GG} {A : Nat → Prop} {Q : State → Prop} {b L ao ap : Nat} {xs : Nat → Int32}
set_option maxRecDepth 100000 in
set_option maxHeartbeats 4000000 in
/-- the checks behind each act -/
theorem lk_tail {i hno hnp : Nat} {g : Nat → Nat} {F E : (Nat → PC) → Prop} {v : Int32} {wo wp : va_W} (C : zC p s m args c cL_law RL 8 G A) (hi : i < 44) (h : OBX G ao g hno F wo) (h1 : OBX G ap g hnp E wp)
    (K : ∀ (hm hq : Nat) (wo' wp' : va_W), OBX G ao g hm HT wo' → OBX G ap g hq HT wp' → Zj p l e room_1 s m args below meth c G A 152 8128 Q [wo', wp'] [some (.ref b), some (.ref ao), some (.ref ap), some (.int (nI i)), some (.int v), none, none, none] 245 []) : Zj p l e room_1 s m args below meth c G A 152 8128 Q [wo, wp] [some (.ref b), some (.ref ao), some (.ref ap), some (.int (nI i)), some (.int v), none, none, none] 153 [] := by
  have hv := (OBX_v h).1
  have h24 := hv.1
  have h12 := hv.2.1
  refine zj_iload_n (pc := 153) C dL_law_153 rfl ?_
  refine zj_bipush (pc := 154) (v := 6) C dL_law_154 (by decide) ?_
  refine zj_irem (pc := 156) C dL_law_156 (by decide) ?_
  refine zj_top (x' := nI ((i) % 6)) (pk_rem (a := i) (d := 6) (by omega) (by decide) (by decide)) ?_
  refine zj_iconst (pc := 157) (v := 5) C dL_law_157 (by decide) ?_
  refine zj_icmp_ne (pc := 158) 198 C dL_law_158 (by decide) (fun c_158 => ?_) (fun c_158 => ?_)
  · refine zj_iload_n (pc := 198) C dL_law_198 rfl ?_
    refine zj_bipush (pc := 199) (v := 9) C dL_law_199 (by decide) ?_
    refine zj_irem (pc := 201) C dL_law_201 (by decide) ?_
    refine zj_top (x' := nI ((i) % 9)) (pk_rem (a := i) (d := 9) (by omega) (by decide) (by decide)) ?_
    refine zj_bipush (pc := 202) (v := 8) C dL_law_202 (by decide) ?_
    refine zj_icmp_ne (pc := 204) 245 C dL_law_204 (by decide) (fun c_204 => ?_) (fun c_204 => ?_)
    · exact K _ _ _ _ (OBX_T h) (OBX_T h1)
    · refine zj_aload_n (pc := 207) C dL_law_207 rfl ?_
      refine zj_iconst (pc := 208) (v := 0) C dL_law_208 (by decide) ?_
      refine zj_callQ (pc := 209) C kv_L_24 (qx_CT h (fun W tn => v_CT0)) dL_law_209 0 rfl rfl rfl rfl rfl rfl rfl (OBX_rec h) rfl (fun u1 hu1 => ?_)
      refine zj_blk (bs' := [u1, wp]) rfl ?_
      refine zj_if_le (pc := 212) 245 C dL_law_212 (by decide) (fun c_212 => ?_) (fun c_212 => ?_)
      · exact K _ _ _ _ (OBX_T hu1) (OBX_T h1)
      · refine zj_aload_n (pc := 215) C dL_law_215 rfl ?_
        refine zj_iload (pc := 216) C dL_law_216 rfl ?_
        refine zj_bipush (pc := 218) (v := 7) C dL_law_218 (by decide) ?_
        refine zj_ishr (pc := 220) C dL_law_220 ?_
        refine zj_top (x' := (shr ((v)) 7)) rfl ?_
        refine zj_aload_n (pc := 221) C dL_law_221 rfl ?_
        refine zj_iconst (pc := 222) (v := 0) C dL_law_222 (by decide) ?_
        refine zj_callQ (pc := 223) C kv_L_24 (qx_CT hu1 (fun W tn => v_CT0)) dL_law_223 0 rfl rfl rfl rfl rfl rfl rfl (OBX_rec hu1) rfl (fun u2 hu2 => ?_)
        refine zj_blk (bs' := [u2, wp]) rfl ?_
        have hpos : 0 < kL g := by have := mt (nI_leI (a := kL g) (b := 0) (by omega) (by omega)).mpr c_212; omega
        refine zj_callSF (pc := 226) C kv_L_8 (m_L_low (x := (shr ((v)) 7)) (n := nI (kL g)) (nI_ne0 hpos (by omega))) dL_law_226 rfl rfl rfl rfl rfl rfl ?_
        obtain ⟨j, hj, ej⟩ := lowI_n (x := (shr ((v)) 7)) (n := kL g) hpos (by omega)
        refine zj_top (x' := nI (j)) ej ?_
        refine zj_callS1 (pc := 229) C kv_L_106 (zY_of (m_L_isClosedSo hu2 hj)) dL_law_229 0 rfl rfl rfl rfl rfl rfl rfl (fun u3 hu3 => ?_)
        refine zj_blk (bs' := [u3, wp]) rfl ?_
        obtain ⟨hm1, hu3⟩ := hu3
        refine zj_if_eq (pc := 232) 243 C dL_law_232 (by decide) (fun cq_ => absurd cq_ (by decide)) (fun _ => ?_)
        refine zj_aload_n (pc := 235) C dL_law_235 rfl ?_
        refine zj_aload_n (pc := 236) C dL_law_236 rfl ?_
        refine zj_callS2 (pc := 237) C kv_L_94 (zY_of (m_L_areAlike hu3 h1)) dL_law_237 rfl rfl rfl rfl rfl rfl (fun u4 u5 hu4 hu5 => ?_)
        refine zj_if_ne (pc := 240) 245 C dL_law_240 (by decide) (fun _ => ?_) (fun cq_ => absurd cq_ (by decide))
        exact K _ _ _ _ (OBX_T hu4) (OBX_T hu5)
  · refine zj_aload_n (pc := 161) C dL_law_161 rfl ?_
    refine zj_callS1 (pc := 162) C kv_L_98 (zY_of (m_L_areLanesSo h)) dL_law_162 0 rfl rfl rfl rfl rfl rfl rfl (fun u6 hu6 => ?_)
    refine zj_blk (bs' := [u6, wp]) rfl ?_
    refine zj_if_eq (pc := 165) 196 C dL_law_165 (by decide) (fun cq_ => absurd cq_ (by decide)) (fun _ => ?_)
    refine zj_aload_n (pc := 168) C dL_law_168 rfl ?_
    refine zj_iconst (pc := 169) (v := 2) C dL_law_169 (by decide) ?_
    refine zj_callQ (pc := 170) C kv_L_24 (qx_CT hu6 (fun W tn => v_CT2)) dL_law_170 0 rfl rfl rfl rfl rfl rfl rfl (OBX_rec hu6) rfl (fun u7 hu7 => ?_)
    refine zj_blk (bs' := [u7, wp]) rfl ?_
    refine zj_if_le (pc := 173) 198 C dL_law_173 (by decide) (fun c_173 => ?_) (fun c_173 => ?_)
    · refine zj_iload_n (pc := 198) C dL_law_198 rfl ?_
      refine zj_bipush (pc := 199) (v := 9) C dL_law_199 (by decide) ?_
      refine zj_irem (pc := 201) C dL_law_201 (by decide) ?_
      refine zj_top (x' := nI ((i) % 9)) (pk_rem (a := i) (d := 9) (by omega) (by decide) (by decide)) ?_
      refine zj_bipush (pc := 202) (v := 8) C dL_law_202 (by decide) ?_
      refine zj_icmp_ne (pc := 204) 245 C dL_law_204 (by decide) (fun c_204 => ?_) (fun c_204 => ?_)
      · exact K _ _ _ _ (OBX_T hu7) (OBX_T h1)
      · refine zj_aload_n (pc := 207) C dL_law_207 rfl ?_
        refine zj_iconst (pc := 208) (v := 0) C dL_law_208 (by decide) ?_
        refine zj_callQ (pc := 209) C kv_L_24 (qx_CT hu7 (fun W tn => v_CT0)) dL_law_209 0 rfl rfl rfl rfl rfl rfl rfl (OBX_rec hu7) rfl (fun u8 hu8 => ?_)
        refine zj_blk (bs' := [u8, wp]) rfl ?_
        refine zj_if_le (pc := 212) 245 C dL_law_212 (by decide) (fun c_212 => ?_) (fun c_212 => ?_)
        · exact K _ _ _ _ (OBX_T hu8) (OBX_T h1)
        · refine zj_aload_n (pc := 215) C dL_law_215 rfl ?_
          refine zj_iload (pc := 216) C dL_law_216 rfl ?_
          refine zj_bipush (pc := 218) (v := 7) C dL_law_218 (by decide) ?_
          refine zj_ishr (pc := 220) C dL_law_220 ?_
          refine zj_top (x' := (shr ((v)) 7)) rfl ?_
          refine zj_aload_n (pc := 221) C dL_law_221 rfl ?_
          refine zj_iconst (pc := 222) (v := 0) C dL_law_222 (by decide) ?_
          refine zj_callQ (pc := 223) C kv_L_24 (qx_CT hu8 (fun W tn => v_CT0)) dL_law_223 0 rfl rfl rfl rfl rfl rfl rfl (OBX_rec hu8) rfl (fun u9 hu9 => ?_)
          refine zj_blk (bs' := [u9, wp]) rfl ?_
          have hpos : 0 < kL g := by have := mt (nI_leI (a := kL g) (b := 0) (by omega) (by omega)).mpr c_212; omega
          refine zj_callSF (pc := 226) C kv_L_8 (m_L_low (x := (shr ((v)) 7)) (n := nI (kL g)) (nI_ne0 hpos (by omega))) dL_law_226 rfl rfl rfl rfl rfl rfl ?_
          obtain ⟨j, hj, ej⟩ := lowI_n (x := (shr ((v)) 7)) (n := kL g) hpos (by omega)
          refine zj_top (x' := nI (j)) ej ?_
          refine zj_callS1 (pc := 229) C kv_L_106 (zY_of (m_L_isClosedSo hu9 hj)) dL_law_229 0 rfl rfl rfl rfl rfl rfl rfl (fun u10 hu10 => ?_)
          refine zj_blk (bs' := [u10, wp]) rfl ?_
          obtain ⟨hm1, hu10⟩ := hu10
          refine zj_if_eq (pc := 232) 243 C dL_law_232 (by decide) (fun cq_ => absurd cq_ (by decide)) (fun _ => ?_)
          refine zj_aload_n (pc := 235) C dL_law_235 rfl ?_
          refine zj_aload_n (pc := 236) C dL_law_236 rfl ?_
          refine zj_callS2 (pc := 237) C kv_L_94 (zY_of (m_L_areAlike hu10 h1)) dL_law_237 rfl rfl rfl rfl rfl rfl (fun u11 u12 hu11 hu12 => ?_)
          refine zj_if_ne (pc := 240) 245 C dL_law_240 (by decide) (fun _ => ?_) (fun cq_ => absurd cq_ (by decide))
          exact K _ _ _ _ (OBX_T hu11) (OBX_T hu12)
    · refine zj_aload_n (pc := 176) C dL_law_176 rfl ?_
      refine zj_iload (pc := 177) C dL_law_177 rfl ?_
      refine zj_bipush (pc := 179) (v := 6) C dL_law_179 (by decide) ?_
      refine zj_ishr (pc := 181) C dL_law_181 ?_
      refine zj_top (x' := (shr ((v)) 6)) rfl ?_
      refine zj_aload_n (pc := 182) C dL_law_182 rfl ?_
      refine zj_iconst (pc := 183) (v := 2) C dL_law_183 (by decide) ?_
      refine zj_callQ (pc := 184) C kv_L_24 (qx_CT hu7 (fun W tn => v_CT2)) dL_law_184 0 rfl rfl rfl rfl rfl rfl rfl (OBX_rec hu7) rfl (fun u13 hu13 => ?_)
      refine zj_blk (bs' := [u13, wp]) rfl ?_
      have hpos : 0 < kA g := by have := mt (nI_leI (a := kA g) (b := 0) (by omega) (by omega)).mpr c_173; omega
      refine zj_callSF (pc := 187) C kv_L_8 (m_L_low (x := (shr ((v)) 6)) (n := nI (kA g)) (nI_ne0 hpos (by omega))) dL_law_187 rfl rfl rfl rfl rfl rfl ?_
      obtain ⟨j, hj, ej⟩ := lowI_n (x := (shr ((v)) 6)) (n := kA g) hpos (by omega)
      refine zj_top (x' := nI (j)) ej ?_
      refine zj_callS1 (pc := 190) C kv_L_102 (zY_of (m_L_areTotalsSo hu13 hj)) dL_law_190 0 rfl rfl rfl rfl rfl rfl rfl (fun u14 hu14 => ?_)
      refine zj_blk (bs' := [u14, wp]) rfl ?_
      refine zj_if_ne (pc := 193) 198 C dL_law_193 (by decide) (fun _ => ?_) (fun cq_ => absurd cq_ (by decide))
      refine zj_iload_n (pc := 198) C dL_law_198 rfl ?_
      refine zj_bipush (pc := 199) (v := 9) C dL_law_199 (by decide) ?_
      refine zj_irem (pc := 201) C dL_law_201 (by decide) ?_
      refine zj_top (x' := nI ((i) % 9)) (pk_rem (a := i) (d := 9) (by omega) (by decide) (by decide)) ?_
      refine zj_bipush (pc := 202) (v := 8) C dL_law_202 (by decide) ?_
      refine zj_icmp_ne (pc := 204) 245 C dL_law_204 (by decide) (fun c_204 => ?_) (fun c_204 => ?_)
      · exact K _ _ _ _ (OBX_T hu14) (OBX_T h1)
      · refine zj_aload_n (pc := 207) C dL_law_207 rfl ?_
        refine zj_iconst (pc := 208) (v := 0) C dL_law_208 (by decide) ?_
        refine zj_callQ (pc := 209) C kv_L_24 (qx_CT hu14 (fun W tn => v_CT0)) dL_law_209 0 rfl rfl rfl rfl rfl rfl rfl (OBX_rec hu14) rfl (fun u15 hu15 => ?_)
        refine zj_blk (bs' := [u15, wp]) rfl ?_
        refine zj_if_le (pc := 212) 245 C dL_law_212 (by decide) (fun c_212 => ?_) (fun c_212 => ?_)
        · exact K _ _ _ _ (OBX_T hu15) (OBX_T h1)
        · refine zj_aload_n (pc := 215) C dL_law_215 rfl ?_
          refine zj_iload (pc := 216) C dL_law_216 rfl ?_
          refine zj_bipush (pc := 218) (v := 7) C dL_law_218 (by decide) ?_
          refine zj_ishr (pc := 220) C dL_law_220 ?_
          refine zj_top (x' := (shr ((v)) 7)) rfl ?_
          refine zj_aload_n (pc := 221) C dL_law_221 rfl ?_
          refine zj_iconst (pc := 222) (v := 0) C dL_law_222 (by decide) ?_
          refine zj_callQ (pc := 223) C kv_L_24 (qx_CT hu15 (fun W tn => v_CT0)) dL_law_223 0 rfl rfl rfl rfl rfl rfl rfl (OBX_rec hu15) rfl (fun u16 hu16 => ?_)
          refine zj_blk (bs' := [u16, wp]) rfl ?_
          have hpos : 0 < kL g := by have := mt (nI_leI (a := kL g) (b := 0) (by omega) (by omega)).mpr c_212; omega
          refine zj_callSF (pc := 226) C kv_L_8 (m_L_low (x := (shr ((v)) 7)) (n := nI (kL g)) (nI_ne0 hpos (by omega))) dL_law_226 rfl rfl rfl rfl rfl rfl ?_
          obtain ⟨j, hj, ej⟩ := lowI_n (x := (shr ((v)) 7)) (n := kL g) hpos (by omega)
          refine zj_top (x' := nI (j)) ej ?_
          refine zj_callS1 (pc := 229) C kv_L_106 (zY_of (m_L_isClosedSo hu16 hj)) dL_law_229 0 rfl rfl rfl rfl rfl rfl rfl (fun u17 hu17 => ?_)
          refine zj_blk (bs' := [u17, wp]) rfl ?_
          obtain ⟨hm1, hu17⟩ := hu17
          refine zj_if_eq (pc := 232) 243 C dL_law_232 (by decide) (fun cq_ => absurd cq_ (by decide)) (fun _ => ?_)
          refine zj_aload_n (pc := 235) C dL_law_235 rfl ?_
          refine zj_aload_n (pc := 236) C dL_law_236 rfl ?_
          refine zj_callS2 (pc := 237) C kv_L_94 (zY_of (m_L_areAlike hu17 h1)) dL_law_237 rfl rfl rfl rfl rfl rfl (fun u18 u19 hu18 hu19 => ?_)
          refine zj_if_ne (pc := 240) 245 C dL_law_240 (by decide) (fun _ => ?_) (fun cq_ => absurd cq_ (by decide))
          exact K _ _ _ _ (OBX_T hu18) (OBX_T hu19)
set_option maxRecDepth 100000 in
set_option maxHeartbeats 4000000 in
theorem lk_loop (C : zC p s m args c cL_law RL 8 G A) (hX : va_X b L xs s s.heap) (hbl : b < s.heap.size) (hbA : ¬ A b) (hL : L ≤ 260) (hE : ∀ (bs : List va_W) (lo : List (Option Value)), Zj p l e room_1 s m args below meth c G A 152 8128 Q bs lo 255 [.int 1]) : ∀ y : Nat × (Nat → Nat) × Nat × Nat × va_W × va_W, y.1 ≤ 44 ∧ OBX G ao y.2.1 y.2.2.1 HT y.2.2.2.2.1 ∧ OBX G ap y.2.1 y.2.2.2.1 HT y.2.2.2.2.2 → Zj p l e room_1 s m args below meth c G A 152 8128 Q [y.2.2.2.2.1, y.2.2.2.2.2] [some (.ref b), some (.ref ao), some (.ref ap), some (.int (nI y.1)), none, none, none, none] 18 [] := by
  refine zj_loopW (fun y : Nat × (Nat → Nat) × Nat × Nat × va_W × va_W => y.1 ≤ 44 ∧ OBX G ao y.2.1 y.2.2.1 HT y.2.2.2.2.1 ∧ OBX G ap y.2.1 y.2.2.2.1 HT y.2.2.2.2.2) (fun y => 44 - y.1) (fun y => [y.2.2.2.2.1, y.2.2.2.2.2]) (fun y => [some (.ref b), some (.ref ao), some (.ref ap), some (.int (nI y.1)), none, none, none, none]) ?_
  rintro ⟨i, g, hno, hnp, wo, wp⟩ ⟨hi, h, h1⟩ ih
  have hi : i ≤ 44 := hi
  have h : OBX G ao g hno HT wo := h
  have h1 : OBX G ap g hnp HT wp := h1
  refine zj_eq (bs' := [wo, wp]) (lo' := [some (.ref b), some (.ref ao), some (.ref ap), some (.int (nI i)), none, none, none, none]) rfl rfl rfl ?_
  have hv := (OBX_v h).1
  have h4 := (OBX_v h).2
  have h24 := hv.1
  have h12 := hv.2.1
  have hN4 : (hno < 4 → hN hno = hno + 1) ∧ (¬ hno < 4 → hN hno = 4) := ⟨fun q => if_pos q, fun q => if_neg q⟩
  have hNb := hN_b h4
  refine zj_iload_n (pc := 18) C dL_law_18 rfl ?_
  refine zj_bipush (pc := 19) (v := 44) C dL_law_19 (by decide) ?_
  refine zj_icmp_ge (pc := 21) 251 C dL_law_21 (by decide) (fun c_21 => ?_) (fun c_21 => ?_)
  · refine zj_aload_n (pc := 251) C dL_law_251 rfl ?_
    refine zj_callS1 (pc := 252) C kv_L_98 (zY_of (m_L_areLanesSo h)) dL_law_252 0 rfl rfl rfl rfl rfl rfl rfl (fun u1 hu1 => ?_)
    refine zj_blk (bs' := [u1, wp]) rfl ?_
    exact hE _ _
  · have hi44 : i < 44 := by have := mt (nI_leI (a := 44) (b := i) (by omega) (by omega)).mpr c_21; omega
    refine zj_aload_n (pc := 24) C dL_law_24 rfl ?_
    refine zj_iload_n (pc := 25) C dL_law_25 rfl ?_
    refine zj_callX (pc := 26) C kv_L_86 (m_L_cell (k := i) hL (by omega)) hX hbl hbA dL_law_26 rfl rfl rfl rfl rfl rfl ?_
    generalize cV L xs i = v
    refine zj_istore (pc := 29) C dL_law_29 (Nat.le_of_ble_eq_true rfl) ?_
    refine zj_aload_n (pc := 31) C dL_law_31 rfl ?_
    refine zj_bipush (pc := 32) (v := 8) C dL_law_32 (by decide) ?_
    refine zj_callQ (pc := 34) C kv_L_24 (qx_CT h (fun W tn => v_CT8)) dL_law_34 0 rfl rfl rfl rfl rfl rfl rfl (OBX_rec h) rfl (fun u2 hu2 => ?_)
    refine zj_blk (bs' := [u2, wp]) rfl ?_
    refine zj_istore (pc := 37) C dL_law_37 (Nat.le_of_ble_eq_true rfl) ?_
    refine zj_aload_n (pc := 39) C dL_law_39 rfl ?_
    refine zj_iload (pc := 40) C dL_law_40 rfl ?_
    refine zj_callS1 (pc := 42) C kv_L_90 (zY_of (m_L_act hu2)) dL_law_42 0 rfl rfl rfl rfl rfl rfl rfl (fun u3 hu3 => ?_)
    refine zj_blk (bs' := [u3, wp]) rfl ?_
    obtain ⟨r, ho, hact⟩ : ∃ r ho, actV g v = (r, ho) := ⟨_, _, rfl⟩
    have hs := actV_s hv v
    rw [hact] at hs hu3
    refine zj_top (x' := (r)) (by rw [hact]) ?_
    refine zj_istore (pc := 45) C dL_law_45 (Nat.le_of_ble_eq_true rfl) ?_
    rcases ho with _ | g1
    · have hs : r < 0 := AS_n2 hs
      have hu3 : OBX G ao g hno HT _ := hu3
      refine zj_iload (pc := 47) C dL_law_47 rfl ?_
      refine zj_if_ge (pc := 49) 73 C dL_law_49 (by decide) (fun cq_ => absurd cq_ (Int32.not_le.mpr hs)) (fun _ => ?_)
      refine zj_aload_n (pc := 52) C dL_law_52 rfl ?_
      refine zj_aload_n (pc := 53) C dL_law_53 rfl ?_
      refine zj_callS2 (pc := 54) C kv_L_94 (zY_of (m_L_areAlike hu3 h1)) dL_law_54 rfl rfl rfl rfl rfl rfl (fun u4 u5 hu4 hu5 => ?_)
      refine zj_if_eq (pc := 57) 71 C dL_law_57 (by decide) (fun cq_ => absurd cq_ (by decide)) (fun _ => ?_)
      refine zj_aload_n (pc := 60) C dL_law_60 rfl ?_
      refine zj_bipush (pc := 61) (v := 8) C dL_law_61 (by decide) ?_
      refine zj_callQ (pc := 63) C kv_L_24 (qx_CT hu4 (fun W tn => v_CT8)) dL_law_63 0 rfl rfl rfl rfl rfl rfl rfl (OBX_rec hu4) rfl (fun u6 hu6 => ?_)
      refine zj_blk (bs' := [u6, u5]) rfl ?_
      refine zj_iload (pc := 66) C dL_law_66 rfl ?_
      refine zj_icmp_eq (pc := 68) 73 C dL_law_68 (by decide) (fun _ => ?_) (fun cq_ => absurd rfl cq_)
      refine zj_iload (pc := 73) C dL_law_73 rfl ?_
      refine zj_if_lt (pc := 75) 132 C dL_law_75 (by decide) (fun _ => ?_) (fun cq_ => absurd hs cq_)
      refine zj_aload_n (pc := 132) C dL_law_132 rfl ?_
      refine zj_iload (pc := 133) C dL_law_133 rfl ?_
      refine zj_callS1 (pc := 135) C kv_L_90 (zY_of (m_L_act hu5)) dL_law_135 1 rfl rfl rfl rfl rfl rfl rfl (fun u7 hu7 => ?_)
      refine zj_blk (bs' := [u6, u7]) rfl ?_
      rw [hact] at hu7
      have hu7 : OBX G ap g hnp HT _ := hu7
      refine zj_top (x' := (r)) (by rw [hact]) ?_
      refine zj_iload (pc := 138) C dL_law_138 rfl ?_
      refine zj_icmp_ne (pc := 140) 151 C dL_law_140 (by decide) (fun cq_ => absurd rfl cq_) (fun _ => ?_)
      refine zj_aload_n (pc := 143) C dL_law_143 rfl ?_
      refine zj_aload_n (pc := 144) C dL_law_144 rfl ?_
      refine zj_callS2 (pc := 145) C kv_L_94 (zY_of (m_L_areAlike hu6 hu7)) dL_law_145 rfl rfl rfl rfl rfl rfl (fun u8 u9 hu8 hu9 => ?_)
      refine zj_if_ne (pc := 148) 153 C dL_law_148 (by decide) (fun _ => ?_) (fun cq_ => absurd cq_ (by decide))
      refine zj_keep [true, true, true, true, true, false, false, false] ?_
      refine lk_tail C (by omega) hu8 hu9 (fun hm hq wo2 wp2 k0 k1 => ?_)
      refine zj_iinc (pc := 245) (v := nI (i + 1)) C dL_law_245 rfl (nI_1 _) ?_
      refine zj_goto (pc := 248) (tgt := 18) C dL_law_248 (by decide) ?_
      refine zj_keep [true, true, true, true, false, false, false, false] ?_
      exact ih (i + 1, g, hm, hq, wo2, wp2) ⟨by show i + 1 ≤ 44; omega, k0, k1⟩ (by show 44 - (i + 1) < 44 - i; omega)
    · have hs : ¬ r < 0 := AS_s2 hs
      have hu3 : OBX G ao g1 (hN hno) (HL g (hN hno)) _ := hu3
      refine zj_iload (pc := 47) C dL_law_47 rfl ?_
      refine zj_if_ge (pc := 49) 73 C dL_law_49 (by decide) (fun _ => ?_) (fun cq_ => absurd (Int32.not_lt.mp hs) cq_)
      refine zj_iload (pc := 73) C dL_law_73 rfl ?_
      refine zj_if_lt (pc := 75) 132 C dL_law_75 (by decide) (fun cq_ => absurd cq_ hs) (fun _ => ?_)
      refine zj_iload (pc := 78) C dL_law_78 rfl ?_
      refine zj_bipush (pc := 80) (v := 9) C dL_law_80 (by decide) ?_
      refine zj_ishr (pc := 82) C dL_law_82 ?_
      refine zj_top (x' := (shr ((v)) 9)) rfl ?_
      refine zj_iconst (pc := 83) (v := 1) C dL_law_83 (by decide) ?_
      refine zj_iand (pc := 84) C dL_law_84 ?_
      refine zj_if_ne (pc := 85) 132 C dL_law_85 (by decide) (fun c_85 => ?_) (fun c_85 => ?_)
      · refine zj_aload_n (pc := 132) C dL_law_132 rfl ?_
        refine zj_iload (pc := 133) C dL_law_133 rfl ?_
        refine zj_callS1 (pc := 135) C kv_L_90 (zY_of (m_L_act h1)) dL_law_135 1 rfl rfl rfl rfl rfl rfl rfl (fun u10 hu10 => ?_)
        refine zj_blk (bs' := [u3, u10]) rfl ?_
        rw [hact] at hu10
        have hu10 : OBX G ap g1 (hN hnp) (HL g (hN hnp)) _ := hu10
        refine zj_top (x' := (r)) (by rw [hact]) ?_
        refine zj_iload (pc := 138) C dL_law_138 rfl ?_
        refine zj_icmp_ne (pc := 140) 151 C dL_law_140 (by decide) (fun cq_ => absurd rfl cq_) (fun _ => ?_)
        refine zj_aload_n (pc := 143) C dL_law_143 rfl ?_
        refine zj_aload_n (pc := 144) C dL_law_144 rfl ?_
        refine zj_callS2 (pc := 145) C kv_L_94 (zY_of (m_L_areAlike hu3 hu10)) dL_law_145 rfl rfl rfl rfl rfl rfl (fun u11 u12 hu11 hu12 => ?_)
        refine zj_if_ne (pc := 148) 153 C dL_law_148 (by decide) (fun _ => ?_) (fun cq_ => absurd cq_ (by decide))
        refine zj_keep [true, true, true, true, true, false, false, false] ?_
        refine lk_tail C (by omega) hu11 hu12 (fun hm hq wo2 wp2 k0 k1 => ?_)
        refine zj_iinc (pc := 245) (v := nI (i + 1)) C dL_law_245 rfl (nI_1 _) ?_
        refine zj_goto (pc := 248) (tgt := 18) C dL_law_248 (by decide) ?_
        refine zj_keep [true, true, true, true, false, false, false, false] ?_
        exact ih (i + 1, g1, hm, hq, wo2, wp2) ⟨by show i + 1 ≤ 44; omega, k0, k1⟩ (by show 44 - (i + 1) < 44 - i; omega)
      · refine zj_aload_n (pc := 88) C dL_law_88 rfl ?_
        refine zj_callQ (pc := 89) C kv_L_81 (a_UN hu3) dL_law_89 0 rfl rfl rfl rfl rfl rfl rfl (OBX_rec hu3) rfl (fun u13 hu13 => ?_)
        refine zj_blk (bs' := [u13, wp]) rfl ?_
        refine zj_istore (pc := 92) C dL_law_92 (Nat.le_of_ble_eq_true rfl) ?_
        refine zj_iload (pc := 94) C dL_law_94 rfl ?_
        refine zj_iload (pc := 96) C dL_law_96 rfl ?_
        refine zj_iconst (pc := 98) (v := 4) C dL_law_98 (by decide) ?_
        refine zj_icmp_ne (pc := 99) 106 C dL_law_99 (by decide) (fun c_99 => ?_) (fun c_99 => ?_)
        · have hq9 := mt (nI_eq (a := hno) (b := 4) (by omega) (by omega)).mpr c_99
          have hN9 := hN4.1 (by omega)
          refine zj_iload (pc := 106) C dL_law_106 rfl ?_
          refine zj_icmp_ne (pc := 108) 130 C dL_law_108 (by decide) (fun cq_ => absurd ((nI_eq (a := hN hno - 1) (b := hno) (by omega) (by omega)).mpr (by omega)) cq_) (fun _ => ?_)
          refine zj_aload_n (pc := 111) C dL_law_111 rfl ?_
          refine zj_aload_n (pc := 112) C dL_law_112 rfl ?_
          refine zj_callS2 (pc := 113) C kv_L_94 (zY_of (m_L_areAlike hu13 h1)) dL_law_113 rfl rfl rfl rfl rfl rfl (fun u14 u15 hu14 hu15 => ?_)
          refine zj_if_eq (pc := 116) 130 C dL_law_116 (by decide) (fun cq_ => absurd cq_ (by decide)) (fun _ => ?_)
          refine zj_aload_n (pc := 119) C dL_law_119 rfl ?_
          refine zj_iload (pc := 120) C dL_law_120 rfl ?_
          refine zj_callS1 (pc := 122) C kv_L_90 (zY_of (m_L_act hu14)) dL_law_122 0 rfl rfl rfl rfl rfl rfl rfl (fun u16 hu16 => ?_)
          refine zj_blk (bs' := [u16, u15]) rfl ?_
          rw [hact] at hu16
          have hu16 : OBX G ao g1 (hN (hN hno - 1)) (HL g (hN (hN hno - 1))) _ := hu16
          refine zj_top (x' := (r)) (by rw [hact]) ?_
          refine zj_iload (pc := 125) C dL_law_125 rfl ?_
          refine zj_icmp_eq (pc := 127) 132 C dL_law_127 (by decide) (fun _ => ?_) (fun cq_ => absurd rfl cq_)
          refine zj_aload_n (pc := 132) C dL_law_132 rfl ?_
          refine zj_iload (pc := 133) C dL_law_133 rfl ?_
          refine zj_callS1 (pc := 135) C kv_L_90 (zY_of (m_L_act hu15)) dL_law_135 1 rfl rfl rfl rfl rfl rfl rfl (fun u17 hu17 => ?_)
          refine zj_blk (bs' := [u16, u17]) rfl ?_
          rw [hact] at hu17
          have hu17 : OBX G ap g1 (hN hnp) (HL g (hN hnp)) _ := hu17
          refine zj_top (x' := (r)) (by rw [hact]) ?_
          refine zj_iload (pc := 138) C dL_law_138 rfl ?_
          refine zj_icmp_ne (pc := 140) 151 C dL_law_140 (by decide) (fun cq_ => absurd rfl cq_) (fun _ => ?_)
          refine zj_aload_n (pc := 143) C dL_law_143 rfl ?_
          refine zj_aload_n (pc := 144) C dL_law_144 rfl ?_
          refine zj_callS2 (pc := 145) C kv_L_94 (zY_of (m_L_areAlike hu16 hu17)) dL_law_145 rfl rfl rfl rfl rfl rfl (fun u18 u19 hu18 hu19 => ?_)
          refine zj_if_ne (pc := 148) 153 C dL_law_148 (by decide) (fun _ => ?_) (fun cq_ => absurd cq_ (by decide))
          refine zj_keep [true, true, true, true, true, false, false, false] ?_
          refine lk_tail C (by omega) hu18 hu19 (fun hm hq wo2 wp2 k0 k1 => ?_)
          refine zj_iinc (pc := 245) (v := nI (i + 1)) C dL_law_245 rfl (nI_1 _) ?_
          refine zj_goto (pc := 248) (tgt := 18) C dL_law_248 (by decide) ?_
          refine zj_keep [true, true, true, true, false, false, false, false] ?_
          exact ih (i + 1, g1, hm, hq, wo2, wp2) ⟨by show i + 1 ≤ 44; omega, k0, k1⟩ (by show 44 - (i + 1) < 44 - i; omega)
        · have hq9 := (nI_eq (a := hno) (b := 4) (by omega) (by omega)).mp c_99
          have hN9 := hN4.2 (by omega)
          refine zj_iconst (pc := 102) (v := 3) C dL_law_102 (by decide) ?_
          refine zj_goto (pc := 103) (tgt := 108) C dL_law_103 (by decide) ?_
          refine zj_icmp_ne (pc := 108) 130 C dL_law_108 (by decide) (fun cq_ => absurd ((nI_eq (a := hN hno - 1) (b := 3) (by omega) (by omega)).mpr (by omega)) cq_) (fun _ => ?_)
          refine zj_aload_n (pc := 111) C dL_law_111 rfl ?_
          refine zj_aload_n (pc := 112) C dL_law_112 rfl ?_
          refine zj_callS2 (pc := 113) C kv_L_94 (zY_of (m_L_areAlike hu13 h1)) dL_law_113 rfl rfl rfl rfl rfl rfl (fun u20 u21 hu20 hu21 => ?_)
          refine zj_if_eq (pc := 116) 130 C dL_law_116 (by decide) (fun cq_ => absurd cq_ (by decide)) (fun _ => ?_)
          refine zj_aload_n (pc := 119) C dL_law_119 rfl ?_
          refine zj_iload (pc := 120) C dL_law_120 rfl ?_
          refine zj_callS1 (pc := 122) C kv_L_90 (zY_of (m_L_act hu20)) dL_law_122 0 rfl rfl rfl rfl rfl rfl rfl (fun u22 hu22 => ?_)
          refine zj_blk (bs' := [u22, u21]) rfl ?_
          rw [hact] at hu22
          have hu22 : OBX G ao g1 (hN (hN hno - 1)) (HL g (hN (hN hno - 1))) _ := hu22
          refine zj_top (x' := (r)) (by rw [hact]) ?_
          refine zj_iload (pc := 125) C dL_law_125 rfl ?_
          refine zj_icmp_eq (pc := 127) 132 C dL_law_127 (by decide) (fun _ => ?_) (fun cq_ => absurd rfl cq_)
          refine zj_aload_n (pc := 132) C dL_law_132 rfl ?_
          refine zj_iload (pc := 133) C dL_law_133 rfl ?_
          refine zj_callS1 (pc := 135) C kv_L_90 (zY_of (m_L_act hu21)) dL_law_135 1 rfl rfl rfl rfl rfl rfl rfl (fun u23 hu23 => ?_)
          refine zj_blk (bs' := [u22, u23]) rfl ?_
          rw [hact] at hu23
          have hu23 : OBX G ap g1 (hN hnp) (HL g (hN hnp)) _ := hu23
          refine zj_top (x' := (r)) (by rw [hact]) ?_
          refine zj_iload (pc := 138) C dL_law_138 rfl ?_
          refine zj_icmp_ne (pc := 140) 151 C dL_law_140 (by decide) (fun cq_ => absurd rfl cq_) (fun _ => ?_)
          refine zj_aload_n (pc := 143) C dL_law_143 rfl ?_
          refine zj_aload_n (pc := 144) C dL_law_144 rfl ?_
          refine zj_callS2 (pc := 145) C kv_L_94 (zY_of (m_L_areAlike hu22 hu23)) dL_law_145 rfl rfl rfl rfl rfl rfl (fun u24 u25 hu24 hu25 => ?_)
          refine zj_if_ne (pc := 148) 153 C dL_law_148 (by decide) (fun _ => ?_) (fun cq_ => absurd cq_ (by decide))
          refine zj_keep [true, true, true, true, true, false, false, false] ?_
          refine lk_tail C (by omega) hu24 hu25 (fun hm hq wo2 wp2 k0 k1 => ?_)
          refine zj_iinc (pc := 245) (v := nI (i + 1)) C dL_law_245 rfl (nI_1 _) ?_
          refine zj_goto (pc := 248) (tgt := 18) C dL_law_248 (by decide) ?_
          refine zj_keep [true, true, true, true, false, false, false, false] ?_
          exact ih (i + 1, g1, hm, hq, wo2, wp2) ⟨by show i + 1 ≤ 44; omega, k0, k1⟩ (by show 44 - (i + 1) < 44 - i; omega)
end ZLOOP
