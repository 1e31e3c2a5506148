/-! THE REFERENCE'S STEPS -/
def rst (g : Nat → Nat) (d x al k : Nat) : Bool := if FR g al x = 2 then decide (d = 0) && decide (bgN g x al k = FS g al x) else decide (0 < d) && decide (bdN g (FS g al) x k d = FS g al x)
def rsF (g : Nat → Nat) (i x nx al k : Nat) : Bool := rst g (lnC g i 3) x al k && lOn (dst g) (lnC g i 3) x nx (lnC g i 2) k
def rsp (g : Nat → Nat) (i x nx al : Nat) : Bool := if FR g al x = 1 then decide (lnC g i 3 = alC g al 2) && (!(decide (x = alC g al 0)) && lOn (dst g) (lnC g i 3) x nx (lnC g i 2) (alC g al 0)) else anyB (rsF g i x nx al) 14 && decide (0 < FR g al x)
def sB (g : Nat → Nat) (x al i : Nat) : Bool := match oeN g i x with
  | none => false
  | some nx => told g i && rsp g i x nx al
def sV (g : Nat → Nat) (x al i : Nat) : Nat := match oeN g i x with
  | none => 0
  | some nx => if told g i && rsp g i x nx al then 2 ^ nx else 0
def sfN (g : Nat → Nat) (x al : Nat) : Nat → Nat
  | 0 => 0
  | n + 1 => sfN g x al n ||| sV g x al n
def lwG (s : Nat) : Nat → Option Nat
  | 0 => none
  | n + 1 => if bitB s (13 - n) then some (13 - n) else lwG s n
def sC (g : Nat → Nat) (x to al i : Nat) : Bool := decide (oeN g i x = some to) && (told g i && rsp g i x to al)
def ssN (g : Nat → Nat) (x to al : Nat) : Nat → Nat
  | 0 => 1000000
  | n + 1 => if sC g x to al n && decide (lnC g n 2 < ssN g x to al n) then lnC g n 2 else ssN g x to al n
theorem ssN_le (g : Nat → Nat) (x to al : Nat) : ∀ n, ssN g x to al n ≤ 1000000
  | 0 => Nat.le_refl _
  | n + 1 => by
    have ih := ssN_le g x to al n
    unfold ssN
    split
    · rename_i h
      simp only [Bool.and_eq_true, decide_eq_true_eq] at h
      omega
    · exact ih
theorem oeN_k {g : Nat → Nat} (hv : Vk g) {i x nx : Nat} (h : oeN g i x = some nx) : i < kL g ∧ nx < 14 := by
  unfold oeN at h
  split at h
  · rename_i hi
    obtain ⟨-, x0, x1, -⟩ := Vk_x hv hi
    refine ⟨hi, ?_⟩
    split at h
    · cases h; exact x1
    · split at h
      · cases h; exact x0
      · cases h
  · cases h
theorem oeN_o {g : Nat → Nat} (hv : Vk g) {i x : Nat} (h : ¬ optI (oeN g i x) = -5) : ∃ nx, oeN g i x = some nx ∧ nx < 14 := by
  cases ho : oeN g i x with
  | none => rw [ho] at h; exact absurd rfl h
  | some nx => exact ⟨nx, rfl, (oeN_k hv ho).2⟩
theorem optI_s {o : Option Nat} {k : Nat} (h : ∀ i, o = some i → i < 2 ^ 31) (hk : k < 2 ^ 31) : optI o = nI k ↔ o = some k := by
  cases o with
  | none => exact ⟨fun q => absurd q.symm (nI_ne5 hk), fun q => by cases q⟩
  | some i =>
    show nI i = nI k ↔ _
    rw [nI_eq (h i rfl) hk]
    exact ⟨fun q => by rw [q], fun q => by cases q; rfl⟩
theorem lwG_lt (s : Nat) : ∀ n k, lwG s n = some k → k < 14
  | 0, k, h => by cases h
  | n + 1, k, h => by
    unfold lwG at h
    split at h
    · cases h; omega
    · exact lwG_lt s n k h
theorem sV_lt {g : Nat → Nat} (hv : Vk g) {x al i : Nat} : sV g x al i < 2 ^ 14 := by
  unfold sV
  cases ho : oeN g i x with
  | none => exact (by decide : 0 < 2 ^ 14)
  | some nx =>
    have h := (oeN_k hv ho).2
    show (if told g i && rsp g i x nx al then 2 ^ nx else 0) < 2 ^ 14
    split
    · exact Nat.pow_lt_pow_right (by decide) h
    · decide
theorem sfN_lt {g : Nat → Nat} (hv : Vk g) {x al : Nat} : ∀ n, sfN g x al n < 2 ^ 14
  | 0 => (by decide : 0 < 2 ^ 14)
  | n + 1 => Nat.or_lt_two_pow (sfN_lt hv n) (sV_lt hv)
theorem i32_m1 (x : Int32) : x + Int32.ofInt (-1) = x - 1 := by rw [Int32.sub_eq_add_neg]; rfl
def shO (g : Nat → Nat) (x al : Nat) : Nat := dst g 4 x (alC g al 0) + alC g al 1

set_option maxRecDepth 100000 in
set_option maxHeartbeats 4000000 in
theorem m_X7_goesTo {l : Launch} {G : GG} {m : Nat → Nat} {g ga gh : Nat → Nat} {kn : Nat} {gk : Nat → Nat} {kp : Bool} {tx : Nat → Nat} {ln : Nat} {iz wa tt rr we : Nat → Nat} {sp : Nat} {wr : Bool} {er : Int32} {i x nx e : Nat} (hv : Vk g) (hi : i < kL g) (hx : x < 14) (hnx : nx < 14) (he : e < 14) : zX l G yX7_goesTo cX7_goesTo 6 (some .boolean) 2 45 0 0 [.ref (m 0), .int (nI (i)), .int (nI (x)), .int (nI (nx)), .int (nI (e))] (mB G m g ga gh kn gk kp tx ln iz (wyV g) wa tt rr we sp wr er).flatten (zF (some (.int (bI (lOn (dst g) (lnC g i 3) x nx (lnC g i 2) e)))) (mB G m g ga gh kn gk kp tx ln iz (wyV g) wa tt rr we sp wr er).flatten) := by
  refine zj_startF RX7 (by decide +kernel) rfl rfl rfl (bs := (mB G m g ga gh kn gk kp tx ln iz (wyV g) wa tt rr we sp wr er)) rfl (lo := [some (.ref (m 0)), some (.int (nI (i))), some (.int (nI (x))), some (.int (nI (nx))), some (.int (nI (e))), none]) rfl ?_
  intro p0 e0 s0 m0 args0 below0 meth0 c0 A0 C hr hlocks
  have hl := Vk_l hv
  obtain ⟨h25, x0, x1, x2, l1, l2, l3, l4⟩ := Vk_x hv hi
  have b1 := dst_1M hl (d := lnC g i 3) hx he
  have b2 := dst_1M hl (d := lnC g i 3) hnx he
  refine zj_aload_n (pc := 0) C dX7_goesTo_0 rfl ?_
  refine zj_iload_n (pc := 1) C dX7_goesTo_1 rfl ?_
  refine zj_iconst (pc := 2) (v := nI 3) C dX7_goesTo_2 (by decide) ?_
  refine zq_callP (pc := 3) C kv_X7_51 (m_X7_of (by omega) (by decide)) dX7_goesTo_3 rfl rfl rfl rfl rfl rfl ⟨0, rfl⟩ rfl rfl ?_
  refine zj_istore (pc := 6) C dX7_goesTo_6 (Nat.le_of_ble_eq_true rfl) ?_
  refine zq_mrg 55 [] (bI (lOn (dst g) (lnC g i 3) x nx (lnC g i 2) e)) ?_ (fun kk => ?_)
  · exact zj_zretF C hr hlocks dX7_goesTo_55 rfl rfl
  · refine zj_aload_n (pc := 8) C dX7_goesTo_8 rfl ?_
    refine zj_iload (pc := 9) C dX7_goesTo_9 rfl ?_
    refine zj_iload_n (pc := 11) C dX7_goesTo_11 rfl ?_
    refine zj_iload (pc := 12) C dX7_goesTo_12 rfl ?_
    refine zq_callP (pc := 14) C kv_X7_76 (m_X7_wayV (by omega) (by omega) (by omega)) dX7_goesTo_14 rfl rfl rfl rfl rfl rfl ⟨0, rfl⟩ rfl rfl ?_
    refine zj_ldc (pc := 17) (v := nI 1000000) C dX7_goesTo_17 aq_1022 ?_
    refine zq_icmp_ge (pc := 19) 54 C dX7_goesTo_19 (by decide) (by omega) (by omega) (fun c_19 => ?_) (fun c_19 => ?_)
    · refine zj_iconst (pc := 54) (v := nI 0) C dX7_goesTo_54 (by decide) ?_
      exact zj_top (x' := bI (lOn (dst g) (lnC g i 3) x nx (lnC g i 2) e)) (zq_f (by unfold lOn; rw [decide_eq_false (by omega)]; rfl)) kk
    · refine zj_aload_n (pc := 22) C dX7_goesTo_22 rfl ?_
      refine zj_iload_n (pc := 23) C dX7_goesTo_23 rfl ?_
      refine zj_iconst (pc := 24) (v := nI 2) C dX7_goesTo_24 (by decide) ?_
      refine zq_callP (pc := 25) C kv_X7_51 (m_X7_of (by omega) (by decide)) dX7_goesTo_25 rfl rfl rfl rfl rfl rfl ⟨0, rfl⟩ rfl rfl ?_
      refine zj_aload_n (pc := 28) C dX7_goesTo_28 rfl ?_
      refine zj_iload (pc := 29) C dX7_goesTo_29 rfl ?_
      refine zj_iload_n (pc := 31) C dX7_goesTo_31 rfl ?_
      refine zj_iload (pc := 32) C dX7_goesTo_32 rfl ?_
      refine zq_callP (pc := 34) C kv_X7_76 (m_X7_wayV (by omega) (by omega) (by omega)) dX7_goesTo_34 rfl rfl rfl rfl rfl rfl ⟨0, rfl⟩ rfl rfl ?_
      refine zq_iadd (pc := 37) C dX7_goesTo_37 ?_
      refine zj_aload_n (pc := 38) C dX7_goesTo_38 rfl ?_
      refine zj_iload (pc := 39) C dX7_goesTo_39 rfl ?_
      refine zj_iload_n (pc := 41) C dX7_goesTo_41 rfl ?_
      refine zj_iload (pc := 42) C dX7_goesTo_42 rfl ?_
      refine zq_callP (pc := 44) C kv_X7_76 (m_X7_wayV (by omega) (by omega) (by omega)) dX7_goesTo_44 rfl rfl rfl rfl rfl rfl ⟨0, rfl⟩ rfl rfl ?_
      refine zq_icmp_ne (pc := 47) 54 C dX7_goesTo_47 (by decide) (by omega) (by omega) (fun c_47 => ?_) (fun c_47 => ?_)
      · refine zj_iconst (pc := 54) (v := nI 0) C dX7_goesTo_54 (by decide) ?_
        exact zj_top (x' := bI (lOn (dst g) (lnC g i 3) x nx (lnC g i 2) e)) (zq_f (by unfold lOn; rw [decide_eq_false c_47, Bool.and_false])) kk
      · refine zj_iconst (pc := 50) (v := nI 1) C dX7_goesTo_50 (by decide) ?_
        refine zj_goto (pc := 51) (tgt := 55) C dX7_goesTo_51 (by decide) ?_
        exact zj_top (x' := bI (lOn (dst g) (lnC g i 3) x nx (lnC g i 2) e)) (zq_t (by unfold lOn; rw [decide_eq_true c_19, decide_eq_true c_47]; rfl)) kk
set_option maxRecDepth 100000 in
set_option maxHeartbeats 4000000 in
theorem m_X7_isStep {l : Launch} {G : GG} {m : Nat → Nat} {g ga gh : Nat → Nat} {kn : Nat} {gk : Nat → Nat} {kp : Bool} {tx : Nat → Nat} {ln : Nat} {wa we : Nat → Nat} {sp : Nat} {wr : Bool} {er : Int32} {t0 r0 : Nat → Nat} {i x nx al : Nat} (hv : Vk g) (hi : i < kL g) (hx : x < 14) (hnx : nx < 14) (ha0 : al < kA g) : zX l G yX7_isStep cX7_isStep 9 (some .boolean) 3 70 0 0 [.ref (m 0), .int (nI (i)), .int (nI (x)), .int (nI (nx)), .int (nI (al))] (mB G m g ga gh kn gk kp tx ln (izV g) (wyV g) wa (ttV g t0) (rrV g r0) we sp wr er).flatten (zF (some (.int (bI (rsp g i x nx al)))) (mB G m g ga gh kn gk kp tx ln (izV g) (wyV g) wa (ttV g t0) (rrV g r0) we sp wr er).flatten) := by
  refine zj_startF RX7 (by decide +kernel) rfl rfl rfl (bs := (mB G m g ga gh kn gk kp tx ln (izV g) (wyV g) wa (ttV g t0) (rrV g r0) we sp wr er)) rfl (lo := [some (.ref (m 0)), some (.int (nI (i))), some (.int (nI (x))), some (.int (nI (nx))), some (.int (nI (al))), none, none, none, none]) rfl ?_
  intro p0 e0 s0 m0 args0 below0 meth0 c0 A0 C hr hlocks
  have ha : kA g ≤ 12 := hv.2.1
  have hae : kA g = g 140 := rfl
  have hl := Vk_l hv
  obtain ⟨h25, x0, x1, x2, l1, l2, l3, l4⟩ := Vk_x hv hi
  obtain ⟨a12, a0, a1, a2⟩ := Vk_a hv ha0
  have hr3 := FR_le g al x
  have hf1 := FS_le g al x
  refine zj_aload_n (pc := 0) C dX7_isStep_0 rfl ?_
  refine zj_iload_n (pc := 1) C dX7_isStep_1 rfl ?_
  refine zj_iconst (pc := 2) (v := nI 3) C dX7_isStep_2 (by decide) ?_
  refine zq_callP (pc := 3) C kv_X7_51 (m_X7_of (by omega) (by decide)) dX7_isStep_3 rfl rfl rfl rfl rfl rfl ⟨0, rfl⟩ rfl rfl ?_
  refine zj_istore (pc := 6) C dX7_isStep_6 (Nat.le_of_ble_eq_true rfl) ?_
  refine zj_iconst (pc := 8) (v := nI 0) C dX7_isStep_8 (by decide) ?_
  refine zj_istore (pc := 9) C dX7_isStep_9 (Nat.le_of_ble_eq_true rfl) ?_
  refine zj_aload_n (pc := 11) C dX7_isStep_11 rfl ?_
  refine zj_iload_n (pc := 12) C dX7_isStep_12 rfl ?_
  refine zj_iload (pc := 13) C dX7_isStep_13 rfl ?_
  refine zq_callP (pc := 15) C kv_X7_109 (m_X7_ruleForV (by omega) (by omega) (by omega)) dX7_isStep_15 rfl rfl rfl rfl rfl rfl ⟨0, rfl⟩ rfl rfl ?_
  refine zj_iconst (pc := 18) (v := nI 1) C dX7_isStep_18 (by decide) ?_
  refine zq_icmp_ne (pc := 19) 68 C dX7_isStep_19 (by decide) (by omega) (by omega) (fun c_19 => ?_) (fun c_19 => ?_)
  · refine zj_iconst (pc := 68) (v := nI 0) C dX7_isStep_68 (by decide) ?_
    refine zj_istore (pc := 69) C dX7_isStep_69 (Nat.le_of_ble_eq_true rfl) ?_
    refine zj_loc (lo' := [some (.ref (m 0)), some (.int (nI i)), some (.int (nI x)), some (.int (nI nx)), some (.int (nI al)), some (.int (nI (lnC g i 3))), some (.int (bI (anyB (rsF g i x nx al) 0))), some (.int (nI 0)), none]) rfl ?_
    refine zj_keep [true, true, true, true, true, true, true, true, false] ?_
    refine zq_loop1 (fun (k : Nat) => k ≤ 14) (fun (k : Nat) => 14 - k) (fun (k : Nat) => (mB G m g ga gh kn gk kp tx ln (izV g) (wyV g) wa (ttV g t0) (rrV g r0) we sp wr er)) (fun (k : Nat) => [some (.ref (m 0)), some (.int (nI (i))), some (.int (nI (x))), some (.int (nI (nx))), some (.int (nI (al))), some (.int (nI (lnC g i 3))), some (.int (bI (anyB (rsF g i x nx al) k))), some (.int (nI (k))), none]) ?_ 0 (Nat.zero_le _)
    intro k hI ih_71
    have g0 : k < 14 → bgN g x al k ≤ 3000000 := fun hk => by have q1 := dst_1M hl (d := 0) hx hk; have q2 := dst_1M hl (d := alC g al 2) hk a0; unfold bgN; split <;> omega
    have g1 : k < 14 → bdN g (FS g al) x k (lnC g i 3) ≤ 3000000 := fun hk => by have q1 := dst_1M hl (d := lnC g i 3) hx hk; have q2 := FS_le g al k; unfold bdN; split <;> omega
    refine zj_iload (pc := 71) C dX7_isStep_71 rfl ?_
    refine zj_bipush (pc := 73) (v := nI 14) C dX7_isStep_73 (by decide) ?_
    refine zq_icmp_ge (pc := 75) 189 C dX7_isStep_75 (by decide) (by omega) (by omega) (fun c_75 => ?_) (fun c_75 => ?_)
    · refine zq_mrg 209 [] (bI (anyB (rsF g i x nx al) 14 && decide (0 < FR g al x))) ?_ (fun kk => ?_)
      · exact zj_zretF C hr hlocks dX7_isStep_209 (congrArg bI (if_neg c_19 : rsp g i x nx al = _).symm) rfl
      · refine zj_iload (pc := 189) C dX7_isStep_189 rfl ?_
        refine zj_ifb_eq (pc := 191) 208 C dX7_isStep_191 (by decide) (fun c_191 => ?_) (fun c_191 => ?_)
        · refine zj_iconst (pc := 208) (v := nI 0) C dX7_isStep_208 (by decide) ?_
          exact zj_top (x' := bI (anyB (rsF g i x nx al) 14 && decide (0 < FR g al x))) (zq_f (by rw [show (14 : Nat) = k by omega]; rw [c_191]; rfl)) kk
        · refine zj_aload_n (pc := 194) C dX7_isStep_194 rfl ?_
          refine zj_iload_n (pc := 195) C dX7_isStep_195 rfl ?_
          refine zj_iload (pc := 196) C dX7_isStep_196 rfl ?_
          refine zq_callP (pc := 198) C kv_X7_109 (m_X7_ruleForV (by omega) (by omega) (by omega)) dX7_isStep_198 rfl rfl rfl rfl rfl rfl ⟨0, rfl⟩ rfl rfl ?_
          refine zq_if_le (pc := 201) 208 C dX7_isStep_201 (by decide) (by omega) (fun c_201 => ?_) (fun c_201 => ?_)
          · refine zj_iconst (pc := 208) (v := nI 0) C dX7_isStep_208 (by decide) ?_
            exact zj_top (x' := bI (anyB (rsF g i x nx al) 14 && decide (0 < FR g al x))) (zq_f (by rw [decide_eq_false (by omega), Bool.and_false])) kk
          · refine zj_iconst (pc := 204) (v := nI 1) C dX7_isStep_204 (by decide) ?_
            refine zj_goto (pc := 205) (tgt := 209) C dX7_isStep_205 (by decide) ?_
            exact zj_top (x' := bI (anyB (rsF g i x nx al) 14 && decide (0 < FR g al x))) (zq_t (by rw [show (14 : Nat) = k by omega]; rw [c_191, decide_eq_true c_201]; rfl)) kk
    · have g2 := g0 c_75
      have g3 := g1 c_75
      refine zq_mrg 152 [] (bI (rst g (lnC g i 3) x al k)) ?_ (fun kk => ?_)
      · refine zj_istore (pc := 152) C dX7_isStep_152 (Nat.le_of_ble_eq_true rfl) ?_
        refine zq_mrg 181 [] (bI (anyB (rsF g i x nx al) (k + 1))) ?_ (fun kk => ?_)
        · refine zj_istore (pc := 181) C dX7_isStep_181 (Nat.le_of_ble_eq_true rfl) ?_
          refine zj_iinc (pc := 183) (v := nI (k + 1)) C dX7_isStep_183 rfl (nI_1 _) ?_
          refine zj_goto (pc := 186) (tgt := 71) C dX7_isStep_186 (by decide) ?_
          refine zj_keep [true, true, true, true, true, true, true, true, false] ?_
          exact ih_71 (k + 1) (by omega) (by omega)
        · refine zj_iload (pc := 154) C dX7_isStep_154 rfl ?_
          refine zj_ifb_ne (pc := 156) 176 C dX7_isStep_156 (by decide) (fun c_156 => ?_) (fun c_156 => ?_)
          · refine zj_iconst (pc := 176) (v := nI 1) C dX7_isStep_176 (by decide) ?_
            refine zj_goto (pc := 177) (tgt := 181) C dX7_isStep_177 (by decide) ?_
            exact zj_top (x' := bI (anyB (rsF g i x nx al) (k + 1))) (zq_t (by show (anyB (rsF g i x nx al) k || (rst g (lnC g i 3) x al k && lOn (dst g) (lnC g i 3) x nx (lnC g i 2) k)) = true; rw [c_156]; rfl)) kk
          · refine zj_iload (pc := 159) C dX7_isStep_159 rfl ?_
            refine zj_ifb_eq (pc := 161) 180 C dX7_isStep_161 (by decide) (fun c_161 => ?_) (fun c_161 => ?_)
            · refine zj_iconst (pc := 180) (v := nI 0) C dX7_isStep_180 (by decide) ?_
              exact zj_top (x' := bI (anyB (rsF g i x nx al) (k + 1))) (zq_f (by show (anyB (rsF g i x nx al) k || (rst g (lnC g i 3) x al k && lOn (dst g) (lnC g i 3) x nx (lnC g i 2) k)) = false; rw [c_156, c_161]; rfl)) kk
            · refine zj_aload_n (pc := 164) C dX7_isStep_164 rfl ?_
              refine zj_iload_n (pc := 165) C dX7_isStep_165 rfl ?_
              refine zj_iload_n (pc := 166) C dX7_isStep_166 rfl ?_
              refine zj_iload_n (pc := 167) C dX7_isStep_167 rfl ?_
              refine zj_iload (pc := 168) C dX7_isStep_168 rfl ?_
              refine zq_callP (pc := 170) C kv_X7_112 (m_X7_goesTo hv (by omega) (by omega) (by omega) (by omega)) dX7_isStep_170 rfl rfl rfl rfl rfl rfl ⟨0, rfl⟩ rfl rfl ?_
              refine zj_ifb_eq (pc := 173) 180 C dX7_isStep_173 (by decide) (fun c_173 => ?_) (fun c_173 => ?_)
              · refine zj_iconst (pc := 180) (v := nI 0) C dX7_isStep_180 (by decide) ?_
                exact zj_top (x' := bI (anyB (rsF g i x nx al) (k + 1))) (zq_f (by show (anyB (rsF g i x nx al) k || (rst g (lnC g i 3) x al k && lOn (dst g) (lnC g i 3) x nx (lnC g i 2) k)) = false; rw [c_156, c_161, c_173]; rfl)) kk
              · refine zj_iconst (pc := 176) (v := nI 1) C dX7_isStep_176 (by decide) ?_
                refine zj_goto (pc := 177) (tgt := 181) C dX7_isStep_177 (by decide) ?_
                exact zj_top (x' := bI (anyB (rsF g i x nx al) (k + 1))) (zq_t (by show (anyB (rsF g i x nx al) k || (rst g (lnC g i 3) x al k && lOn (dst g) (lnC g i 3) x nx (lnC g i 2) k)) = true; rw [c_156, c_161, c_173]; rfl)) kk
      · refine zj_aload_n (pc := 78) C dX7_isStep_78 rfl ?_
        refine zj_iload_n (pc := 79) C dX7_isStep_79 rfl ?_
        refine zj_iload (pc := 80) C dX7_isStep_80 rfl ?_
        refine zq_callP (pc := 82) C kv_X7_109 (m_X7_ruleForV (by omega) (by omega) (by omega)) dX7_isStep_82 rfl rfl rfl rfl rfl rfl ⟨0, rfl⟩ rfl rfl ?_
        refine zj_iconst (pc := 85) (v := nI 2) C dX7_isStep_85 (by decide) ?_
        refine zq_icmp_ne (pc := 86) 121 C dX7_isStep_86 (by decide) (by omega) (by omega) (fun c_86 => ?_) (fun c_86 => ?_)
        · refine zj_iload (pc := 121) C dX7_isStep_121 rfl ?_
          refine zq_if_le (pc := 123) 151 C dX7_isStep_123 (by decide) (by omega) (fun c_123 => ?_) (fun c_123 => ?_)
          · refine zj_iconst (pc := 151) (v := nI 0) C dX7_isStep_151 (by decide) ?_
            exact zj_top (x' := bI (rst g (lnC g i 3) x al k)) (zq_f (by unfold rst; rw [if_neg c_86, decide_eq_false (by omega)]; rfl)) kk
          · refine zj_aload_n (pc := 126) C dX7_isStep_126 rfl ?_
            refine zj_iload_n (pc := 127) C dX7_isStep_127 rfl ?_
            refine zj_iload (pc := 128) C dX7_isStep_128 rfl ?_
            refine zj_iload (pc := 130) C dX7_isStep_130 rfl ?_
            refine zj_iload (pc := 132) C dX7_isStep_132 rfl ?_
            refine zq_callP (pc := 134) C kv_X7_92 (m_X7_byDistrict (N := FS g al) hv hx (by omega) (by omega) (by omega) (fun k hk => ttI_at ha0 hk)) dX7_isStep_134 rfl rfl rfl rfl rfl rfl ⟨0, rfl⟩ rfl rfl ?_
            refine zj_aload_n (pc := 137) C dX7_isStep_137 rfl ?_
            refine zj_iload_n (pc := 138) C dX7_isStep_138 rfl ?_
            refine zj_iload (pc := 139) C dX7_isStep_139 rfl ?_
            refine zq_callP (pc := 141) C kv_X7_116 (m_X7_sumForV (by omega) (by omega) (by omega)) dX7_isStep_141 rfl rfl rfl rfl rfl rfl ⟨0, rfl⟩ rfl rfl ?_
            refine zq_icmp_ne (pc := 144) 151 C dX7_isStep_144 (by decide) (by omega) (by omega) (fun c_144 => ?_) (fun c_144 => ?_)
            · refine zj_iconst (pc := 151) (v := nI 0) C dX7_isStep_151 (by decide) ?_
              exact zj_top (x' := bI (rst g (lnC g i 3) x al k)) (zq_f (by unfold rst; rw [if_neg c_86, decide_eq_false c_144, Bool.and_false])) kk
            · refine zj_iconst (pc := 147) (v := nI 1) C dX7_isStep_147 (by decide) ?_
              refine zj_goto (pc := 148) (tgt := 152) C dX7_isStep_148 (by decide) ?_
              exact zj_top (x' := bI (rst g (lnC g i 3) x al k)) (zq_t (by unfold rst; rw [if_neg c_86, decide_eq_true c_123, decide_eq_true c_144]; rfl)) kk
        · refine zj_iload (pc := 89) C dX7_isStep_89 rfl ?_
          refine zq_if_ne (pc := 91) 117 C dX7_isStep_91 (by decide) (by omega) (fun c_91 => ?_) (fun c_91 => ?_)
          · refine zj_iconst (pc := 117) (v := nI 0) C dX7_isStep_117 (by decide) ?_
            refine zj_goto (pc := 118) (tgt := 152) C dX7_isStep_118 (by decide) ?_
            exact zj_top (x' := bI (rst g (lnC g i 3) x al k)) (zq_f (by unfold rst; rw [if_pos c_86, decide_eq_false c_91]; rfl)) kk
          · refine zj_aload_n (pc := 94) C dX7_isStep_94 rfl ?_
            refine zj_iload_n (pc := 95) C dX7_isStep_95 rfl ?_
            refine zj_iload (pc := 96) C dX7_isStep_96 rfl ?_
            refine zj_iload (pc := 98) C dX7_isStep_98 rfl ?_
            refine zq_callP (pc := 100) C kv_X7_85 (m_X7_byGate hv (by omega) (by omega) (by omega)) dX7_isStep_100 rfl rfl rfl rfl rfl rfl ⟨0, rfl⟩ rfl rfl ?_
            refine zj_aload_n (pc := 103) C dX7_isStep_103 rfl ?_
            refine zj_iload_n (pc := 104) C dX7_isStep_104 rfl ?_
            refine zj_iload (pc := 105) C dX7_isStep_105 rfl ?_
            refine zq_callP (pc := 107) C kv_X7_116 (m_X7_sumForV (by omega) (by omega) (by omega)) dX7_isStep_107 rfl rfl rfl rfl rfl rfl ⟨0, rfl⟩ rfl rfl ?_
            refine zq_icmp_ne (pc := 110) 117 C dX7_isStep_110 (by decide) (by omega) (by omega) (fun c_110 => ?_) (fun c_110 => ?_)
            · refine zj_iconst (pc := 117) (v := nI 0) C dX7_isStep_117 (by decide) ?_
              refine zj_goto (pc := 118) (tgt := 152) C dX7_isStep_118 (by decide) ?_
              exact zj_top (x' := bI (rst g (lnC g i 3) x al k)) (zq_f (by unfold rst; rw [if_pos c_86, decide_eq_false c_110, Bool.and_false])) kk
            · refine zj_iconst (pc := 113) (v := nI 1) C dX7_isStep_113 (by decide) ?_
              refine zj_goto (pc := 114) (tgt := 152) C dX7_isStep_114 (by decide) ?_
              exact zj_top (x' := bI (rst g (lnC g i 3) x al k)) (zq_t (by unfold rst; rw [if_pos c_86, decide_eq_true c_91, decide_eq_true c_110]; rfl)) kk
  · refine zq_mrg 67 [] (bI (decide (lnC g i 3 = alC g al 2) && (!(decide (x = alC g al 0)) && lOn (dst g) (lnC g i 3) x nx (lnC g i 2) (alC g al 0)))) ?_ (fun kk => ?_)
    · exact zj_zretF C hr hlocks dX7_isStep_67 (congrArg bI (if_pos c_19 : rsp g i x nx al = _).symm) rfl
    · refine zj_iload (pc := 22) C dX7_isStep_22 rfl ?_
      refine zj_aload_n (pc := 24) C dX7_isStep_24 rfl ?_
      refine zj_iload (pc := 25) C dX7_isStep_25 rfl ?_
      refine zj_iconst (pc := 27) (v := nI 2) C dX7_isStep_27 (by decide) ?_
      refine zq_callP (pc := 28) C kv_X7_79 (m_X7_ofAlley (by omega) (by decide)) dX7_isStep_28 rfl rfl rfl rfl rfl rfl ⟨0, rfl⟩ rfl rfl ?_
      refine zq_icmp_ne (pc := 31) 66 C dX7_isStep_31 (by decide) (by omega) (by omega) (fun c_31 => ?_) (fun c_31 => ?_)
      · refine zj_iconst (pc := 66) (v := nI 0) C dX7_isStep_66 (by decide) ?_
        exact zj_top (x' := bI (decide (lnC g i 3 = alC g al 2) && (!(decide (x = alC g al 0)) && lOn (dst g) (lnC g i 3) x nx (lnC g i 2) (alC g al 0)))) (zq_f (by rw [decide_eq_false c_31]; rfl)) kk
      · refine zj_iload_n (pc := 34) C dX7_isStep_34 rfl ?_
        refine zj_aload_n (pc := 35) C dX7_isStep_35 rfl ?_
        refine zj_iload (pc := 36) C dX7_isStep_36 rfl ?_
        refine zj_iconst (pc := 38) (v := nI 0) C dX7_isStep_38 (by decide) ?_
        refine zq_callP (pc := 39) C kv_X7_79 (m_X7_ofAlley (by omega) (by decide)) dX7_isStep_39 rfl rfl rfl rfl rfl rfl ⟨0, rfl⟩ rfl rfl ?_
        refine zq_icmp_eq (pc := 42) 66 C dX7_isStep_42 (by decide) (by omega) (by omega) (fun c_42 => ?_) (fun c_42 => ?_)
        · refine zj_iconst (pc := 66) (v := nI 0) C dX7_isStep_66 (by decide) ?_
          exact zj_top (x' := bI (decide (lnC g i 3 = alC g al 2) && (!(decide (x = alC g al 0)) && lOn (dst g) (lnC g i 3) x nx (lnC g i 2) (alC g al 0)))) (zq_f (by rw [decide_eq_true c_42]; simp)) kk
        · refine zj_aload_n (pc := 45) C dX7_isStep_45 rfl ?_
          refine zj_iload_n (pc := 46) C dX7_isStep_46 rfl ?_
          refine zj_iload_n (pc := 47) C dX7_isStep_47 rfl ?_
          refine zj_iload_n (pc := 48) C dX7_isStep_48 rfl ?_
          refine zj_aload_n (pc := 49) C dX7_isStep_49 rfl ?_
          refine zj_iload (pc := 50) C dX7_isStep_50 rfl ?_
          refine zj_iconst (pc := 52) (v := nI 0) C dX7_isStep_52 (by decide) ?_
          refine zq_callP (pc := 53) C kv_X7_79 (m_X7_ofAlley (by omega) (by decide)) dX7_isStep_53 rfl rfl rfl rfl rfl rfl ⟨0, rfl⟩ rfl rfl ?_
          refine zq_callP (pc := 56) C kv_X7_112 (m_X7_goesTo hv (by omega) (by omega) (by omega) (by omega)) dX7_isStep_56 rfl rfl rfl rfl rfl rfl ⟨0, rfl⟩ rfl rfl ?_
          refine zj_ifb_eq (pc := 59) 66 C dX7_isStep_59 (by decide) (fun c_59 => ?_) (fun c_59 => ?_)
          · refine zj_iconst (pc := 66) (v := nI 0) C dX7_isStep_66 (by decide) ?_
            exact zj_top (x' := bI (decide (lnC g i 3 = alC g al 2) && (!(decide (x = alC g al 0)) && lOn (dst g) (lnC g i 3) x nx (lnC g i 2) (alC g al 0)))) (zq_f (by rw [decide_eq_true c_31, decide_eq_false c_42, c_59]; rfl)) kk
          · refine zj_iconst (pc := 62) (v := nI 1) C dX7_isStep_62 (by decide) ?_
            refine zj_goto (pc := 63) (tgt := 67) C dX7_isStep_63 (by decide) ?_
            exact zj_top (x' := bI (decide (lnC g i 3 = alC g al 2) && (!(decide (x = alC g al 0)) && lOn (dst g) (lnC g i 3) x nx (lnC g i 2) (alC g al 0)))) (zq_t (by rw [decide_eq_true c_31, decide_eq_false c_42, c_59]; rfl)) kk
set_option maxRecDepth 100000 in
set_option maxHeartbeats 4000000 in
theorem m_X7_stepsFrom {l : Launch} {G : GG} {m : Nat → Nat} {g ga gh : Nat → Nat} {kn : Nat} {gk : Nat → Nat} {kp : Bool} {tx : Nat → Nat} {ln : Nat} {wa we : Nat → Nat} {sp : Nat} {wr : Bool} {er : Int32} {t0 r0 : Nat → Nat} {x al : Nat} (hv : Vk g) (hx : x < 14) (ha0 : al < kA g) : zX l G yX7_stepsFrom cX7_stepsFrom 7 (some .int) 4 98 0 0 [.ref (m 0), .int (nI (x)), .int (nI (al))] (mB G m g ga gh kn gk kp tx ln (izV g) (wyV g) wa (ttV g t0) (rrV g r0) we sp wr er).flatten (zF (some (.int (nI (sfN g x al (kL g))))) (mB G m g ga gh kn gk kp tx ln (izV g) (wyV g) wa (ttV g t0) (rrV g r0) we sp wr er).flatten) := by
  refine zj_startF RX7 (by decide +kernel) rfl rfl rfl (bs := (mB G m g ga gh kn gk kp tx ln (izV g) (wyV g) wa (ttV g t0) (rrV g r0) we sp wr er)) rfl (lo := [some (.ref (m 0)), some (.int (nI (x))), some (.int (nI (al))), none, none, none, none]) rfl ?_
  intro p0 e0 s0 m0 args0 below0 meth0 c0 A0 C hr hlocks
  have hk : kL g ≤ 25 := hv.1
  have hke : kL g = g 14 := rfl
  have ha : kA g ≤ 12 := hv.2.1
  have hae : kA g = g 140 := rfl
  refine zj_iconst (pc := 0) (v := nI 0) C dX7_stepsFrom_0 (by decide) ?_
  refine zj_istore_n (pc := 1) C dX7_stepsFrom_1 (Nat.le_of_ble_eq_true rfl) ?_
  refine zj_iconst (pc := 2) (v := nI 0) C dX7_stepsFrom_2 (by decide) ?_
  refine zj_istore (pc := 3) C dX7_stepsFrom_3 (Nat.le_of_ble_eq_true rfl) ?_
  refine zj_keep [true, true, true, true, true, false, false] ?_
  refine zq_loop1 (fun (k : Nat) => k ≤ kL g) (fun (k : Nat) => kL g - k) (fun (k : Nat) => (mB G m g ga gh kn gk kp tx ln (izV g) (wyV g) wa (ttV g t0) (rrV g r0) we sp wr er)) (fun (k : Nat) => [some (.ref (m 0)), some (.int (nI (x))), some (.int (nI (al))), some (.int (nI (sfN g x al k))), some (.int (nI (k))), none, none]) ?_ 0 (Nat.zero_le _)
  intro k hI ih_5
  refine zj_iload (pc := 5) C dX7_stepsFrom_5 rfl ?_
  refine zj_aload_n (pc := 7) C dX7_stepsFrom_7 rfl ?_
  refine gf_X7_0 (pc := 8) C dX7_stepsFrom_8 0 rfl ?_
  refine zj_bipush (pc := 11) (v := nI 14) C dX7_stepsFrom_11 (by decide) ?_
  refine zq_iald (pc := 13) C dX7_stepsFrom_13 1 rfl (by omega) (by decide) ?_
  refine zq_icmp_ge (pc := 14) 84 C dX7_stepsFrom_14 (by decide) (by omega) (by omega) (fun c_14 => ?_) (fun c_14 => ?_)
  · refine zj_iload_n (pc := 84) C dX7_stepsFrom_84 rfl ?_
    exact zj_iretF C hr hlocks dX7_stepsFrom_85 (by rw [show k = kL g by omega]) rfl
  · refine zj_aload_n (pc := 17) C dX7_stepsFrom_17 rfl ?_
    refine zj_iload (pc := 18) C dX7_stepsFrom_18 rfl ?_
    refine zj_iload_n (pc := 20) C dX7_stepsFrom_20 rfl ?_
    refine zq_callP (pc := 21) C kv_X7_119 (m_X7_otherEnd hv (by omega) (by omega)) dX7_stepsFrom_21 rfl rfl rfl rfl rfl rfl ⟨0, rfl⟩ rfl rfl ?_
    refine zj_istore (pc := 24) C dX7_stepsFrom_24 (Nat.le_of_ble_eq_true rfl) ?_
    refine zq_mrg 60 [] (bI (sB g x al k)) ?_ (fun kk => ?_)
    · refine zj_istore (pc := 60) C dX7_stepsFrom_60 (Nat.le_of_ble_eq_true rfl) ?_
      refine zj_iload_n (pc := 62) C dX7_stepsFrom_62 rfl ?_
      refine zq_mrg 76 [.int (nI (sfN g x al k))] (nI (sV g x al k)) ?_ (fun kk => ?_)
      · refine zq_ior (pc := 76) C dX7_stepsFrom_76 ?_
        refine zj_istore_n (pc := 77) C dX7_stepsFrom_77 (Nat.le_of_ble_eq_true rfl) ?_
        refine zj_iinc (pc := 78) (v := nI (k + 1)) C dX7_stepsFrom_78 rfl (nI_1 _) ?_
        refine zj_goto (pc := 81) (tgt := 5) C dX7_stepsFrom_81 (by decide) ?_
        refine zj_keep [true, true, true, true, true, false, false] ?_
        exact ih_5 (k + 1) (by omega) (by omega)
      · refine zj_iload (pc := 63) C dX7_stepsFrom_63 rfl ?_
        refine zj_ifb_eq (pc := 65) 75 C dX7_stepsFrom_65 (by decide) (fun c_65 => ?_) (fun c_65 => ?_)
        · refine zj_iconst (pc := 75) (v := nI 0) C dX7_stepsFrom_75 (by decide) ?_
          exact zj_top (x' := nI (sV g x al k)) (congrArg nI (by unfold sB at c_65; unfold sV; cases h : oeN g k x with | none => rfl | some nx => rw [h] at c_65; exact (if_neg (by rw [show (told g k && rsp g k x nx al) = false from c_65]; decide)).symm)) kk
        · refine zj_iconst (pc := 68) (v := nI 1) C dX7_stepsFrom_68 (by decide) ?_
          refine zj_iload (pc := 69) C dX7_stepsFrom_69 rfl ?_
          obtain ⟨nx, hnx, hnx14⟩ := oeN_o hv (i := k) (x := x) (fun h => by unfold sB at c_65; rw [(optI_5 (fun i h => Nat.lt_trans (oeN_k hv h).2 (by decide))).mp h] at c_65; cases c_65)
          refine zj_top (x' := nI nx) (by rw [hnx]; rfl) ?_
          refine zq_shl1 (pc := 71) C dX7_stepsFrom_71 (by omega) ?_
          refine zj_goto (pc := 72) (tgt := 76) C dX7_stepsFrom_72 (by decide) ?_
          exact zj_top (x' := nI (sV g x al k)) (congrArg nI (by unfold sB at c_65; unfold sV; rw [hnx] at c_65 ⊢; exact (if_pos c_65).symm)) kk
    · refine zj_iload (pc := 26) C dX7_stepsFrom_26 rfl ?_
      refine zj_bipush (pc := 28) (v := (-5)) C dX7_stepsFrom_28 (by decide) ?_
      refine zj_icmp_eq (pc := 30) 59 C dX7_stepsFrom_30 (by decide) (fun c_30 => ?_) (fun c_30 => ?_)
      · refine zj_iconst (pc := 59) (v := nI 0) C dX7_stepsFrom_59 (by decide) ?_
        exact zj_top (x' := bI (sB g x al k)) (zq_f (by unfold sB; rw [(optI_5 (fun i h => Nat.lt_trans (oeN_k hv h).2 (by decide))).mp c_30])) kk
      · obtain ⟨nx, hnx, hnx14⟩ := oeN_o hv c_30
        refine zj_aload_n (pc := 33) C dX7_stepsFrom_33 rfl ?_
        refine zj_iload (pc := 34) C dX7_stepsFrom_34 rfl ?_
        refine zq_callP (pc := 36) C kv_X7_59 (m_X7_isTold hv (by omega)) dX7_stepsFrom_36 rfl rfl rfl rfl rfl rfl ⟨0, rfl⟩ rfl rfl ?_
        refine zj_ifb_eq (pc := 39) 59 C dX7_stepsFrom_39 (by decide) (fun c_39 => ?_) (fun c_39 => ?_)
        · refine zj_iconst (pc := 59) (v := nI 0) C dX7_stepsFrom_59 (by decide) ?_
          exact zj_top (x' := bI (sB g x al k)) (zq_f (by unfold sB; rw [hnx, c_39]; rfl)) kk
        · refine zj_aload_n (pc := 42) C dX7_stepsFrom_42 rfl ?_
          refine zj_iload (pc := 43) C dX7_stepsFrom_43 rfl ?_
          refine zj_iload_n (pc := 45) C dX7_stepsFrom_45 rfl ?_
          refine zj_iload (pc := 46) C dX7_stepsFrom_46 rfl ?_
          refine zj_top (x' := nI nx) (by rw [hnx]; rfl) ?_
          refine zj_iload_n (pc := 48) C dX7_stepsFrom_48 rfl ?_
          refine zq_callP (pc := 49) C kv_X7_122 (m_X7_isStep hv (by omega) (by omega) (by omega) (by omega)) dX7_stepsFrom_49 rfl rfl rfl rfl rfl rfl ⟨0, rfl⟩ rfl rfl ?_
          refine zj_ifb_eq (pc := 52) 59 C dX7_stepsFrom_52 (by decide) (fun c_52 => ?_) (fun c_52 => ?_)
          · refine zj_iconst (pc := 59) (v := nI 0) C dX7_stepsFrom_59 (by decide) ?_
            exact zj_top (x' := bI (sB g x al k)) (zq_f (by unfold sB; rw [hnx]; show (told g k && rsp g k x nx al) = _; rw [c_39, c_52]; rfl)) kk
          · refine zj_iconst (pc := 55) (v := nI 1) C dX7_stepsFrom_55 (by decide) ?_
            refine zj_goto (pc := 56) (tgt := 60) C dX7_stepsFrom_56 (by decide) ?_
            exact zj_top (x' := bI (sB g x al k)) (zq_t (by unfold sB; rw [hnx]; show (told g k && rsp g k x nx al) = _; rw [c_39, c_52]; rfl)) kk
set_option maxRecDepth 100000 in
set_option maxHeartbeats 4000000 in
theorem m_X7_lowestOf {l : Launch} {G : GG} {s : Nat} (hs : s < 2 ^ 31) : zX l G yX7_lowestOf cX7_lowestOf 3 (some .int) 0 0 0 0 [.int (nI (s))] ([]) (zF (some (.int (optI (lwG s 14)))) ([])) := by
  refine zj_startF RX7 (by decide +kernel) rfl rfl rfl (bs := []) rfl (lo := [some (.int (nI (s))), none, none]) rfl ?_
  intro p0 e0 s0 m0 args0 below0 meth0 c0 A0 C hr hlocks
  refine zj_bipush (pc := 0) (v := (-5)) C dX7_lowestOf_0 (by decide) ?_
  refine zj_istore_n (pc := 2) C dX7_lowestOf_2 (Nat.le_of_ble_eq_true rfl) ?_
  refine zj_bipush (pc := 3) (v := nI 13) C dX7_lowestOf_3 (by decide) ?_
  refine zj_istore_n (pc := 5) C dX7_lowestOf_5 (Nat.le_of_ble_eq_true rfl) ?_
  refine zj_loc (lo' := [some (.int (nI s)), some (.int (optI (lwG s 0))), some (.int (nI (14 - 0) - 1))]) rfl ?_
  refine zj_keep [true, true, true] ?_
  refine zq_loop1 (fun (n : Nat) => n ≤ 14) (fun (n : Nat) => 14 - n) (fun (n : Nat) => []) (fun (n : Nat) => [some (.int (nI (s))), some (.int (optI (lwG s n))), some (.int (nI (14 - n) - 1))]) ?_ 0 (Nat.zero_le _)
  intro n hI ih_6
  refine zj_iload_n (pc := 6) C dX7_lowestOf_6 rfl ?_
  refine zj_if_lt (pc := 7) 31 C dX7_lowestOf_7 (by decide) (fun c_7 => ?_) (fun c_7 => ?_)
  · refine zj_iload_n (pc := 31) C dX7_lowestOf_31 rfl ?_
    exact zj_iretF C hr hlocks dX7_lowestOf_32 (by rw [show n = 14 from Nat.le_antisymm hI (Nat.le_of_not_lt fun h => absurd c_7 (by rw [show nI (14 - n) - 1 = nI (13 - n) from (pk_sub (a := 14 - n) (b := 1) (by omega)).trans (congrArg nI (by omega))]; exact nI_pos (by omega)))]) rfl
  · have hn : n < 14 := by
      rcases Nat.lt_or_ge n 14 with h | h
      · exact h
      · exact absurd (show nI (14 - n) - 1 < 0 by rw [show 14 - n = 0 by omega]; decide) c_7
    refine zj_loc (lo' := [some (.int (nI s)), some (.int (optI (lwG s n))), some (.int (nI (13 - n)))]) (by rw [show nI (14 - n) - 1 = nI (13 - n) from (pk_sub (a := 14 - n) (b := 1) (by omega)).trans (congrArg nI (by omega))]) ?_
    refine zq_mrg 24 [] (optI (lwG s (n + 1))) ?_ (fun kk => ?_)
    · refine zj_istore_n (pc := 24) C dX7_lowestOf_24 (Nat.le_of_ble_eq_true rfl) ?_
      refine zj_iinc (pc := 25) (v := nI (14 - (n + 1)) - 1) C dX7_lowestOf_25 rfl (by rw [show 14 - (n + 1) = 13 - n by omega]; exact i32_m1 _) ?_
      refine zj_goto (pc := 28) (tgt := 6) C dX7_lowestOf_28 (by decide) ?_
      refine zj_keep [true, true, true] ?_
      exact ih_6 (n + 1) (by omega) (by omega)
    · refine zj_iload_n (pc := 10) C dX7_lowestOf_10 rfl ?_
      refine zj_iload_n (pc := 11) C dX7_lowestOf_11 rfl ?_
      refine zj_ishr (pc := 12) C dX7_lowestOf_12 ?_
      refine zj_iconst (pc := 13) (v := nI 1) C dX7_lowestOf_13 (by decide) ?_
      refine zj_iand (pc := 14) C dX7_lowestOf_14 ?_
      refine zj_top (x' := nI (s / 2 ^ (13 - n) % 2)) (nI_bit hs (by omega)) ?_
      refine zj_iconst (pc := 15) (v := nI 1) C dX7_lowestOf_15 (by decide) ?_
      refine zq_icmp_ne (pc := 16) 23 C dX7_lowestOf_16 (by decide) (by omega) (by omega) (fun c_16 => ?_) (fun c_16 => ?_)
      · refine zj_iload_n (pc := 23) C dX7_lowestOf_23 rfl ?_
        exact zj_top (x' := optI (lwG s (n + 1))) (show _ = optI (if bitB s (13 - n) then some (13 - n) else lwG s n) from by rw [show bitB s (13 - n) = false from by unfold bitB; simp; omega]; rfl) kk
      · refine zj_iload_n (pc := 19) C dX7_lowestOf_19 rfl ?_
        refine zj_goto (pc := 20) (tgt := 24) C dX7_lowestOf_20 (by decide) ?_
        exact zj_top (x' := optI (lwG s (n + 1))) (show _ = optI (if bitB s (13 - n) then some (13 - n) else lwG s n) from by rw [show bitB s (13 - n) = true from by unfold bitB; simp; omega]; rfl) kk
set_option maxRecDepth 100000 in
set_option maxHeartbeats 4000000 in
theorem m_X7_shortestStep {l : Launch} {G : GG} {m : Nat → Nat} {g ga gh : Nat → Nat} {kn : Nat} {gk : Nat → Nat} {kp : Bool} {tx : Nat → Nat} {ln : Nat} {wa we : Nat → Nat} {sp : Nat} {wr : Bool} {er : Int32} {t0 r0 : Nat → Nat} {x to al : Nat} (hv : Vk g) (hx : x < 14) (hto : to < 14) (ha0 : al < kA g) : zX l G yX7_shortestStep cX7_shortestStep 7 (some .int) 4 98 0 0 [.ref (m 0), .int (nI (x)), .int (nI (to)), .int (nI (al))] (mB G m g ga gh kn gk kp tx ln (izV g) (wyV g) wa (ttV g t0) (rrV g r0) we sp wr er).flatten (zF (some (.int (nI (ssN g x to al (kL g))))) (mB G m g ga gh kn gk kp tx ln (izV g) (wyV g) wa (ttV g t0) (rrV g r0) we sp wr er).flatten) := by
  refine zj_startF RX7 (by decide +kernel) rfl rfl rfl (bs := (mB G m g ga gh kn gk kp tx ln (izV g) (wyV g) wa (ttV g t0) (rrV g r0) we sp wr er)) rfl (lo := [some (.ref (m 0)), some (.int (nI (x))), some (.int (nI (to))), some (.int (nI (al))), none, none, none]) rfl ?_
  intro p0 e0 s0 m0 args0 below0 meth0 c0 A0 C hr hlocks
  have hk : kL g ≤ 25 := hv.1
  have hke : kL g = g 14 := rfl
  have ha : kA g ≤ 12 := hv.2.1
  have hae : kA g = g 140 := rfl
  refine zj_ldc (pc := 0) (v := nI 1000000) C dX7_shortestStep_0 aq_1022 ?_
  refine zj_istore (pc := 2) C dX7_shortestStep_2 (Nat.le_of_ble_eq_true rfl) ?_
  refine zj_iconst (pc := 4) (v := nI 0) C dX7_shortestStep_4 (by decide) ?_
  refine zj_istore (pc := 5) C dX7_shortestStep_5 (Nat.le_of_ble_eq_true rfl) ?_
  refine zj_keep [true, true, true, true, true, true, false] ?_
  refine zq_loop1 (fun (k : Nat) => k ≤ kL g) (fun (k : Nat) => kL g - k) (fun (k : Nat) => (mB G m g ga gh kn gk kp tx ln (izV g) (wyV g) wa (ttV g t0) (rrV g r0) we sp wr er)) (fun (k : Nat) => [some (.ref (m 0)), some (.int (nI (x))), some (.int (nI (to))), some (.int (nI (al))), some (.int (nI (ssN g x to al k))), some (.int (nI (k))), none]) ?_ 0 (Nat.zero_le _)
  intro k hI ih_7
  have hs := ssN_le g x to al k
  refine zj_iload (pc := 7) C dX7_shortestStep_7 rfl ?_
  refine zj_aload_n (pc := 9) C dX7_shortestStep_9 rfl ?_
  refine gf_X7_0 (pc := 10) C dX7_shortestStep_10 0 rfl ?_
  refine zj_bipush (pc := 13) (v := nI 14) C dX7_shortestStep_13 (by decide) ?_
  refine zq_iald (pc := 15) C dX7_shortestStep_15 1 rfl (by omega) (by decide) ?_
  refine zq_icmp_ge (pc := 16) 95 C dX7_shortestStep_16 (by decide) (by omega) (by omega) (fun c_16 => ?_) (fun c_16 => ?_)
  · refine zj_iload (pc := 95) C dX7_shortestStep_95 rfl ?_
    exact zj_iretF C hr hlocks dX7_shortestStep_97 (by rw [show k = kL g by omega]) rfl
  · obtain ⟨h25, x0, x1, x2, l1, l2, l3, l4⟩ := Vk_x hv (show k < kL g by omega)
    refine zq_mrg 68 [] (bI (sC g x to al k && decide (lnC g k 2 < ssN g x to al k))) ?_ (fun kk => ?_)
    · refine zj_istore (pc := 68) C dX7_shortestStep_68 (Nat.le_of_ble_eq_true rfl) ?_
      refine zq_mrg 87 [] (nI (ssN g x to al (k + 1))) ?_ (fun kk => ?_)
      · refine zj_istore (pc := 87) C dX7_shortestStep_87 (Nat.le_of_ble_eq_true rfl) ?_
        refine zj_iinc (pc := 89) (v := nI (k + 1)) C dX7_shortestStep_89 rfl (nI_1 _) ?_
        refine zj_goto (pc := 92) (tgt := 7) C dX7_shortestStep_92 (by decide) ?_
        refine zj_keep [true, true, true, true, true, true, false] ?_
        exact ih_7 (k + 1) (by omega) (by omega)
      · refine zj_iload (pc := 70) C dX7_shortestStep_70 rfl ?_
        refine zj_ifb_eq (pc := 72) 85 C dX7_shortestStep_72 (by decide) (fun c_72 => ?_) (fun c_72 => ?_)
        · refine zj_iload (pc := 85) C dX7_shortestStep_85 rfl ?_
          exact zj_top (x' := nI (ssN g x to al (k + 1))) (congrArg nI (if_neg (by rw [c_72]; decide) : ssN g x to al (k + 1) = _).symm) kk
        · refine zj_aload_n (pc := 75) C dX7_shortestStep_75 rfl ?_
          refine zj_iload (pc := 76) C dX7_shortestStep_76 rfl ?_
          refine zj_iconst (pc := 78) (v := nI 2) C dX7_shortestStep_78 (by decide) ?_
          refine zq_callP (pc := 79) C kv_X7_51 (m_X7_of (by omega) (by decide)) dX7_shortestStep_79 rfl rfl rfl rfl rfl rfl ⟨0, rfl⟩ rfl rfl ?_
          refine zj_goto (pc := 82) (tgt := 87) C dX7_shortestStep_82 (by decide) ?_
          exact zj_top (x' := nI (ssN g x to al (k + 1))) (congrArg nI (if_pos c_72 : ssN g x to al (k + 1) = _).symm) kk
    · refine zj_aload_n (pc := 19) C dX7_shortestStep_19 rfl ?_
      refine zj_iload (pc := 20) C dX7_shortestStep_20 rfl ?_
      refine zj_iload_n (pc := 22) C dX7_shortestStep_22 rfl ?_
      refine zq_callP (pc := 23) C kv_X7_119 (m_X7_otherEnd hv (by omega) (by omega)) dX7_shortestStep_23 rfl rfl rfl rfl rfl rfl ⟨0, rfl⟩ rfl rfl ?_
      refine zj_iload_n (pc := 26) C dX7_shortestStep_26 rfl ?_
      refine zj_icmp_ne (pc := 27) 67 C dX7_shortestStep_27 (by decide) (fun c_27 => ?_) (fun c_27 => ?_)
      · refine zj_iconst (pc := 67) (v := nI 0) C dX7_shortestStep_67 (by decide) ?_
        exact zj_top (x' := bI (sC g x to al k && decide (lnC g k 2 < ssN g x to al k))) (zq_f (by unfold sC; rw [decide_eq_false (fun h => c_27 ((optI_s (fun i h => Nat.lt_trans (oeN_k hv h).2 (by decide)) (by omega)).mpr h))]; rfl)) kk
      · refine zj_aload_n (pc := 30) C dX7_shortestStep_30 rfl ?_
        refine zj_iload (pc := 31) C dX7_shortestStep_31 rfl ?_
        refine zq_callP (pc := 33) C kv_X7_59 (m_X7_isTold hv (by omega)) dX7_shortestStep_33 rfl rfl rfl rfl rfl rfl ⟨0, rfl⟩ rfl rfl ?_
        refine zj_ifb_eq (pc := 36) 67 C dX7_shortestStep_36 (by decide) (fun c_36 => ?_) (fun c_36 => ?_)
        · refine zj_iconst (pc := 67) (v := nI 0) C dX7_shortestStep_67 (by decide) ?_
          exact zj_top (x' := bI (sC g x to al k && decide (lnC g k 2 < ssN g x to al k))) (zq_f (by unfold sC; rw [decide_eq_true ((optI_s (fun i h => Nat.lt_trans (oeN_k hv h).2 (by decide)) (by omega)).mp c_27), c_36]; rfl)) kk
        · refine zj_aload_n (pc := 39) C dX7_shortestStep_39 rfl ?_
          refine zj_iload (pc := 40) C dX7_shortestStep_40 rfl ?_
          refine zj_iload_n (pc := 42) C dX7_shortestStep_42 rfl ?_
          refine zj_iload_n (pc := 43) C dX7_shortestStep_43 rfl ?_
          refine zj_iload_n (pc := 44) C dX7_shortestStep_44 rfl ?_
          refine zq_callP (pc := 45) C kv_X7_122 (m_X7_isStep hv (by omega) (by omega) (by omega) (by omega)) dX7_shortestStep_45 rfl rfl rfl rfl rfl rfl ⟨0, rfl⟩ rfl rfl ?_
          refine zj_ifb_eq (pc := 48) 67 C dX7_shortestStep_48 (by decide) (fun c_48 => ?_) (fun c_48 => ?_)
          · refine zj_iconst (pc := 67) (v := nI 0) C dX7_shortestStep_67 (by decide) ?_
            exact zj_top (x' := bI (sC g x to al k && decide (lnC g k 2 < ssN g x to al k))) (zq_f (by unfold sC; rw [decide_eq_true ((optI_s (fun i h => Nat.lt_trans (oeN_k hv h).2 (by decide)) (by omega)).mp c_27), c_36, c_48]; rfl)) kk
          · refine zj_aload_n (pc := 51) C dX7_shortestStep_51 rfl ?_
            refine zj_iload (pc := 52) C dX7_shortestStep_52 rfl ?_
            refine zj_iconst (pc := 54) (v := nI 2) C dX7_shortestStep_54 (by decide) ?_
            refine zq_callP (pc := 55) C kv_X7_51 (m_X7_of (by omega) (by decide)) dX7_shortestStep_55 rfl rfl rfl rfl rfl rfl ⟨0, rfl⟩ rfl rfl ?_
            refine zj_iload (pc := 58) C dX7_shortestStep_58 rfl ?_
            refine zq_icmp_ge (pc := 60) 67 C dX7_shortestStep_60 (by decide) (by omega) (by omega) (fun c_60 => ?_) (fun c_60 => ?_)
            · refine zj_iconst (pc := 67) (v := nI 0) C dX7_shortestStep_67 (by decide) ?_
              exact zj_top (x' := bI (sC g x to al k && decide (lnC g k 2 < ssN g x to al k))) (zq_f (by unfold sC; rw [decide_eq_true ((optI_s (fun i h => Nat.lt_trans (oeN_k hv h).2 (by decide)) (by omega)).mp c_27), c_36, c_48, decide_eq_false (by omega)]; rfl)) kk
            · refine zj_iconst (pc := 63) (v := nI 1) C dX7_shortestStep_63 (by decide) ?_
              refine zj_goto (pc := 64) (tgt := 68) C dX7_shortestStep_64 (by decide) ?_
              exact zj_top (x' := bI (sC g x to al k && decide (lnC g k 2 < ssN g x to al k))) (zq_t (by unfold sC; rw [decide_eq_true ((optI_s (fun i h => Nat.lt_trans (oeN_k hv h).2 (by decide)) (by omega)).mp c_27), c_36, c_48, decide_eq_true c_60]; rfl)) kk
set_option maxRecDepth 100000 in
set_option maxHeartbeats 4000000 in
theorem m_X7_shortestOf {l : Launch} {G : GG} {m : Nat → Nat} {g ga gh : Nat → Nat} {kn : Nat} {gk : Nat → Nat} {kp : Bool} {tx : Nat → Nat} {ln : Nat} {iz wy tt rr we : Nat → Nat} {sp : Nat} {wr : Bool} {er : Int32} {x al : Nat} (hv : Vk g) (hx : x < 14) (ha0 : al < kA g) : zX l G yX7_shortestOf cX7_shortestOf 3 (some .int) 1 22 0 0 [.ref (m 0), .int (nI (x)), .int (nI (al))] (mB G m g ga gh kn gk kp tx ln iz wy (dsF g 4) tt rr we sp wr er).flatten (zF (some (.int (nI (shO g x al)))) (mB G m g ga gh kn gk kp tx ln iz wy (dsF g 4) tt rr we sp wr er).flatten) := by
  refine zj_startF RX7 (by decide +kernel) rfl rfl rfl (bs := (mB G m g ga gh kn gk kp tx ln iz wy (dsF g 4) tt rr we sp wr er)) rfl (lo := [some (.ref (m 0)), some (.int (nI (x))), some (.int (nI (al)))]) rfl ?_
  intro p0 e0 s0 m0 args0 below0 meth0 c0 A0 C hr hlocks
  have ha : kA g ≤ 12 := hv.2.1
  have hae : kA g = g 140 := rfl
  obtain ⟨a12, a0, a1, a2⟩ := Vk_a hv ha0
  refine zj_aload_n (pc := 0) C dX7_shortestOf_0 rfl ?_
  refine gf_X7_10 (pc := 1) C dX7_shortestOf_1 0 rfl ?_
  refine zj_iconst (pc := 4) (v := nI 0) C dX7_shortestOf_4 (by decide) ?_
  refine zj_iload_n (pc := 5) C dX7_shortestOf_5 rfl ?_
  refine zj_aload_n (pc := 6) C dX7_shortestOf_6 rfl ?_
  refine zj_iload_n (pc := 7) C dX7_shortestOf_7 rfl ?_
  refine zj_iconst (pc := 8) (v := nI 0) C dX7_shortestOf_8 (by decide) ?_
  refine zq_callP (pc := 9) C kv_X7_79 (m_X7_ofAlley (by omega) (by decide)) dX7_shortestOf_9 rfl rfl rfl rfl rfl rfl ⟨0, rfl⟩ rfl rfl ?_
  refine zj_callSF (pc := 12) C kv_X7_67 (m_X7_at) dX7_shortestOf_12 rfl rfl rfl rfl rfl rfl ?_
  refine zq_iald (pc := 15) C dX7_shortestOf_15 8 rfl (by omega) (by decide) ?_
  refine zj_top (x' := nI (dst g 4 x (alC g al 0))) (congrArg nI (by rw [Nat.mul_zero, Nat.zero_add]; unfold dsF; rw [(fx a0).1, (fx a0).2])) ?_
  refine zj_aload_n (pc := 16) C dX7_shortestOf_16 rfl ?_
  refine zj_iload_n (pc := 17) C dX7_shortestOf_17 rfl ?_
  refine zj_iconst (pc := 18) (v := nI 1) C dX7_shortestOf_18 (by decide) ?_
  refine zq_callP (pc := 19) C kv_X7_79 (m_X7_ofAlley (by omega) (by decide)) dX7_shortestOf_19 rfl rfl rfl rfl rfl rfl ⟨0, rfl⟩ rfl rfl ?_
  refine zq_iadd (pc := 22) C dX7_shortestOf_22 ?_
  exact zj_iretF C hr hlocks dX7_shortestOf_23 rfl rfl
