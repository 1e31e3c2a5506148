theorem nxt_A {t : Nat → Nat} {n q : Nat} : nxt t n (q, false) 97 97 = isA t n (q, false) := by
  unfold nxt isA
  by_cases h : q < n
  · by_cases h2 : t q = 97
    · simp [h, h2]
    · have : ¬ (97 ≤ t q ∧ t q ≤ 97) := fun z => h2 (by omega)
      simp [h, h2]
      omega
  · simp [h]
theorem ffR_X {t : Nat → Nat} {n : Nat} : ∀ {j : Nat} {T T' : T7}, T.1 = T'.1 → ffR t n j T = ffR t n j T'
  | 0, T, T', h => by show some T.1.1 = some T'.1.1; rw [h]
  | j + 1, T, T', h => by
    have e : (rdP t n T).1 = (rdP t n T').1 := by
      unfold rdP
      rw [h]
      split <;> rfl
    unfold ffR
    rw [h, e, ffR_X e]
theorem F60_X {t : Nat → Nat} {n : Nat} {X X' : Bool × Nat × Nat × Nat × Nat} : F60 t n X = F60 t n X' := ffR_X rfl
def tlA (t : Nat → Nat) (n : Nat) (X1 X2 : Bool × Nat × Nat × Nat × Nat) (g : Nat → Nat) (P : PC) : Int32 := match F60 t n X1 with
  | some p => -100 - nI p
  | none => match (A60 t n X2 g P).1 with
    | some r => r
    | none => nI (A60 t n X2 g P).2.1
def tlO (t : Nat → Nat) (n : Nat) (X1 X2 : Bool × Nat × Nat × Nat × Nat) (g : Nat → Nat) (P : PC) : Bool := (F60 t n X1).isNone && (A60 t n X2 g P).1.isNone
def zT (G : GG) (m : Nat → Nat) (g gh : Nat → Nat) (kn : Nat) (gk : Nat → Nat) (kp : Bool) (tx : Nat → Nat) (ln : Nat) (iz wy wa tt rr we : Nat → Nat) (v : Int32) (ok : Bool) (g' : Nat → Nat) : Option Value → va_W → Prop := fun v' w' => v' = some (.int v) ∧ ∃ ga p w e, w' = (mB G m (if ok then g' else g) ga (if ok then rcH gh g kn else gh) (if ok then rcN kn else kn) gk kp tx ln iz wy wa tt rr we p w e).flatten

set_option maxRecDepth 100000 in
set_option maxHeartbeats 4000000 in
theorem m_X7_reads {l : Launch} {G : GG} {m : Nat → Nat} {g ga gh : Nat → Nat} {kn : Nat} {gk : Nat → Nat} {kp : Bool} {tx : Nat → Nat} {ln : Nat} {iz wy wa tt rr we : Nat → Nat} {sp : Nat} {wr : Bool} {er : Int32} {dn : Bool} {X : Bool × Nat × Nat × Nat × Nat} {P0 : PC} (hP : PR g P0) (hv : Vg g) (hn : ln ≤ 60) (htc : ∀ k, k < ln → tx k < 65536) : zX l G yX7_reads cX7_reads 4 (some .int) 4 92 0 0 [.ref (m 0), .int (bI (dn))] (mB G m g ga gh kn gk kp tx ln iz wy wa tt rr we sp wr er).flatten (zR G m ga gh kn gk kp tx ln iz wy wa tt rr we (RC tx ln dn X g P0)) := by
  refine zj_startF RX7 (by decide +kernel) rfl rfl rfl (bs := (mB G m g ga gh kn gk kp tx ln iz wy wa tt rr we sp wr er)) rfl (lo := [some (.ref (m 0)), some (.int (bI (dn))), none, none]) rfl ?_
  intro p0 e0 s0 m0 args0 below0 meth0 c0 A0 C hr hlocks
  refine zj_aload_n (pc := 0) C dX7_reads_0 rfl ?_
  refine zj_iconst (pc := 1) (v := nI 0) C dX7_reads_1 (by decide) ?_
  refine pf_X7_14 (pc := 2) C dX7_reads_2 0 rfl ?_
  refine zj_blk (bs' := (mB G m g ga gh kn gk kp tx ln iz wy wa tt rr we 0 wr er)) rfl ?_
  refine zj_aload_n (pc := 5) C dX7_reads_5 rfl ?_
  refine zj_iconst (pc := 6) (v := nI 0) C dX7_reads_6 (by decide) ?_
  refine pf_X7_15 (pc := 7) (x := false) C dX7_reads_7 0 rfl ?_
  refine zj_blk (bs' := (mB G m g ga gh kn gk kp tx ln iz wy wa tt rr we 0 false er)) rfl ?_
  refine zj_aload_n (pc := 10) C dX7_reads_10 rfl ?_
  refine zj_iconst (pc := 11) (v := nI 0) C dX7_reads_11 (by decide) ?_
  refine pf_X7_16 (pc := 12) C dX7_reads_12 0 rfl ?_
  refine zj_blk (bs' := (mB G m g ga gh kn gk kp tx ln iz wy wa tt rr we 0 false (nI (0)))) rfl ?_
  refine zj_iconst (pc := 15) (v := nI 0) C dX7_reads_15 (by decide) ?_
  refine zj_istore_n (pc := 16) C dX7_reads_16 (Nat.le_of_ble_eq_true rfl) ?_
  refine zj_iconst (pc := 17) (v := nI 1) C dX7_reads_17 (by decide) ?_
  refine zj_istore_n (pc := 18) C dX7_reads_18 (Nat.le_of_ble_eq_true rfl) ?_
  refine zj_keep [true, true, true, true] ?_
  refine zq_loop4 (fun (q9 : Nat) (k : Nat) (gq : Nat → Nat) (S : Int32 × Nat × T7 × PC) => RI tx ln dn X g P0 q9 k gq S) (fun (q9 : Nat) (k : Nat) (gq : Nat → Nat) (S : Int32 × Nat × T7 × PC) => 100 - q9) (fun (q9 : Nat) (k : Nat) (gq : Nat → Nat) (S : Int32 × Nat × T7 × PC) => (mB G m gq ga gh kn gk kp tx ln iz wy wa tt rr we q9 false S.1)) (fun (q9 : Nat) (k : Nat) (gq : Nat → Nat) (S : Int32 × Nat × T7 × PC) => [some (.ref (m 0)), some (.int (bI (dn))), some (.int (nI (k))), some (.int (nI (1)))]) ?_ 0 0 g (nI 0, 60, ((0, false), X), P0) (RI_i hP hv nI_0)
  intro q9 k gq S hI ih_19
  have h60 := hI.1
  refine zj_iload_n (pc := 19) C dX7_reads_19 rfl ?_
  refine zq_if_eq (pc := 20) 100 C dX7_reads_20 (by decide) (by omega) (fun c_20 => absurd c_20 (by decide)) (fun c_20 => ?_)
  refine zj_aload_n (pc := 23) C dX7_reads_23 rfl ?_
  refine zj_bipush (pc := 24) (v := nI 97) C dX7_reads_24 (by decide) ?_
  refine zj_bipush (pc := 26) (v := nI 97) C dX7_reads_26 (by decide) ?_
  refine zq_callP (pc := 28) C kv_X7_167 (m_X7_isNext hn htc (by omega) (by omega) (by omega)) dX7_reads_28 rfl rfl rfl rfl rfl rfl ⟨0, rfl⟩ rfl rfl ?_
  refine zj_ifb_eq (pc := 31) 42 C dX7_reads_31 (by decide) (fun c_31 => ?_) (fun c_31 => ?_)
  · refine zj_aload_n (pc := 42) C dX7_reads_42 rfl ?_
    refine zj_iload_n (pc := 43) C dX7_reads_43 rfl ?_
    refine zq_callFn (pc := 44) (bs' := (mB G m (rpG dn gq S.1 ((0, false), (true, (rdLn tx ln (q9, false)).1.1, (rdLn tx ln (q9, false)).1.2.1, (rdLn tx ln (q9, false)).1.2.2.1, (rdLn tx ln (q9, false)).1.2.2.2))) ga gh kn gk kp tx ln iz wy wa tt rr we ((rdLn tx ln (q9, false)).2.1) ((rdLn tx ln (q9, false)).2.2) (er3 dn gq S.1 ((0, false), (true, (rdLn tx ln (q9, false)).1.1, (rdLn tx ln (q9, false)).1.2.1, (rdLn tx ln (q9, false)).1.2.2.1, (rdLn tx ln (q9, false)).1.2.2.2))))) C kv_X7_183 (m_X7_readLane hI.2.2.1 hn htc (by omega)) dX7_reads_44 rfl rfl rfl rfl rfl rfl ⟨0, rfl⟩ rfl rfl ?_
    have hia : isA tx ln (q9, false) = false := by rw [← nxt_A]; exact c_31
    have e1 : s1P tx ln q9 = (rdLn tx ln (q9, false)).2 := if_neg (by rw [hia]; decide)
    have eT := (show TM tx ln q9 = _ from if_neg (by rw [hia]; decide))
    refine zj_blk (bs' := (mB G m (rpG dn gq S.1 (TM tx ln q9)) ga gh kn gk kp tx ln iz wy wa tt rr we ((s1P tx ln q9).1) ((s1P tx ln q9).2) (er3 dn gq S.1 (TM tx ln q9)))) (by rw [e1, eT]) ?_
    have hb := s1P_b (t := tx) (sp := q9) hn hI.1
    refine zj_iinc (pc := 47) (v := nI (k + 1)) C dX7_reads_47 rfl (nI_1 _) ?_
    refine zq_mrg 73 [] (bI ((!(s1P tx ln q9).2) && decide ((s1P tx ln q9).1 < ln))) ?_ (fun kk => ?_)
    · refine zj_istore_n (pc := 73) C dX7_reads_73 (Nat.le_of_ble_eq_true rfl) ?_
      refine zj_iload_n (pc := 74) C dX7_reads_74 rfl ?_
      refine zj_ifb_eq (pc := 75) 19 C dX7_reads_75 (by decide) (fun c_75 => ?_) (fun c_75 => ?_)
      · refine zj_iload_n (pc := 19) C dX7_reads_19 rfl ?_
        refine zj_ifb_eq (pc := 20) 100 C dX7_reads_20 (by decide) (fun c_20 => ?_) (fun c_20 => by rw [c_75] at c_20; cases c_20)
        refine zj_iload_n (pc := 100) C dX7_reads_100 rfl ?_
        refine zj_iret C hr hlocks dX7_reads_101 ?_
        exact ⟨_, _, _, _, _, RI_C hn hI c_75, rfl, rfl⟩
      · have hwl : (s1P tx ln q9).2 = false ∧ (s1P tx ln q9).1 < ln := by simpa using c_75
        obtain ⟨hw9, hl9⟩ := hwl
        refine zj_blk (bs' := (mB G m (rpG dn gq S.1 (TM tx ln q9)) ga gh kn gk kp tx ln iz wy wa tt rr we ((s1P tx ln q9).1) false (er3 dn gq S.1 (TM tx ln q9)))) (by rw [hw9]) ?_
        refine zj_aload_n (pc := 78) C dX7_reads_78 rfl ?_
        refine zj_bipush (pc := 79) (v := nI 59) C dX7_reads_79 (by decide) ?_
        refine zq_callFn (pc := 81) (bs' := (mB G m (rpG dn gq S.1 (TM tx ln q9)) ga gh kn gk kp tx ln iz wy wa tt rr we ((rdS tx ln 59 (((s1P tx ln q9).1), false)).1) ((rdS tx ln 59 (((s1P tx ln q9).1), false)).2) (er3 dn gq S.1 (TM tx ln q9)))) C kv_X7_173 (m_X7_needs hn htc (by decide) (by omega)) dX7_reads_81 rfl rfl rfl rfl rfl rfl ⟨0, rfl⟩ rfl rfl ?_
        refine zj_aload_n (pc := 84) C dX7_reads_84 rfl ?_
        refine gf_X7_15 (pc := 85) C dX7_reads_85 0 rfl ?_
        refine zj_ifb_ne (pc := 88) 95 C dX7_reads_88 (by decide) (fun c_88 => ?_) (fun c_88 => ?_)
        · refine zj_iconst (pc := 95) (v := nI 0) C dX7_reads_95 (by decide) ?_
          refine zj_istore_n (pc := 96) C dX7_reads_96 (Nat.le_of_ble_eq_true rfl) ?_
          refine zj_goto (pc := 97) (tgt := 19) C dX7_reads_97 (by decide) ?_
          refine zj_iload_n (pc := 19) C dX7_reads_19 rfl ?_
          refine zq_if_eq (pc := 20) 100 C dX7_reads_20 (by decide) (by omega) (fun c_20 => ?_) (fun c_20 => absurd rfl c_20)
          refine zj_iload_n (pc := 100) C dX7_reads_100 rfl ?_
          refine zj_iret C hr hlocks dX7_reads_101 ?_
          exact ⟨_, _, _, _, _, (by rw [c_88]; exact RI_3 hn hI hw9 hl9 c_88), rfl, rfl⟩
        · refine zj_iconst (pc := 91) (v := nI 1) C dX7_reads_91 (by decide) ?_
          refine zj_goto (pc := 92) (tgt := 96) C dX7_reads_92 (by decide) ?_
          refine zj_istore_n (pc := 96) C dX7_reads_96 (Nat.le_of_ble_eq_true rfl) ?_
          refine zj_goto (pc := 97) (tgt := 19) C dX7_reads_97 (by decide) ?_
          have h4 := RI_4 hn hI hw9 hl9 c_88
          refine zj_blk (bs' := (mB G m (rpG dn gq S.1 (TM tx ln q9)) ga gh kn gk kp tx ln iz wy wa tt rr we ((rdS tx ln 59 (((s1P tx ln q9).1), false)).1) false (er3 dn gq S.1 (TM tx ln q9)))) (by rw [c_88]) ?_
          refine zj_keep [true, true, true, true] ?_
          exact ih_19 ((rdS tx ln 59 ((s1P tx ln q9).1, false)).1) (k + 1) (rpG dn gq S.1 (TM tx ln q9)) (er3 dn gq S.1 (TM tx ln q9), S.2.1 - 1, rdP tx ln S.2.2.1, rpP dn gq S.1 (TM tx ln q9) S.2.2.2) h4.1 (by have h5 := h4.2; have h6 := hI.1; omega)
    · refine zj_aload_n (pc := 50) C dX7_reads_50 rfl ?_
      refine gf_X7_15 (pc := 51) C dX7_reads_51 0 rfl ?_
      refine zj_ifb_ne (pc := 54) 72 C dX7_reads_54 (by decide) (fun c_54 => ?_) (fun c_54 => ?_)
      · refine zj_iconst (pc := 72) (v := nI 0) C dX7_reads_72 (by decide) ?_
        exact zj_top (x' := bI ((!(s1P tx ln q9).2) && decide ((s1P tx ln q9).1 < ln))) (zq_f (by rw [c_54]; rfl)) kk
      · refine zj_aload_n (pc := 57) C dX7_reads_57 rfl ?_
        refine gf_X7_14 (pc := 58) C dX7_reads_58 0 rfl ?_
        refine zj_aload_n (pc := 61) C dX7_reads_61 rfl ?_
        refine gf_X7_7 (pc := 62) C dX7_reads_62 0 rfl ?_
        refine zq_icmp_ge (pc := 65) 72 C dX7_reads_65 (by decide) (by omega) (by omega) (fun c_65 => ?_) (fun c_65 => ?_)
        · refine zj_iconst (pc := 72) (v := nI 0) C dX7_reads_72 (by decide) ?_
          exact zj_top (x' := bI ((!(s1P tx ln q9).2) && decide ((s1P tx ln q9).1 < ln))) (zq_f (by rw [c_54, decide_eq_false (by omega)]; rfl)) kk
        · refine zj_iconst (pc := 68) (v := nI 1) C dX7_reads_68 (by decide) ?_
          refine zj_goto (pc := 69) (tgt := 73) C dX7_reads_69 (by decide) ?_
          exact zj_top (x' := bI ((!(s1P tx ln q9).2) && decide ((s1P tx ln q9).1 < ln))) (zq_t (by rw [c_54, decide_eq_true c_65]; rfl)) kk
  · obtain ⟨-, f2, f3, f4⟩ := nxt_t c_31
    have f2 : q9 < ln := f2
    have f3 : 97 ≤ tx q9 := f3
    have f4 : tx q9 ≤ 97 := f4
    refine zj_aload_n (pc := 34) C dX7_reads_34 rfl ?_
    refine zj_iload_n (pc := 35) C dX7_reads_35 rfl ?_
    refine zq_callFn (pc := 36) (bs' := (mB G m (rpG dn gq S.1 ((0, false), (false, (rdAl tx ln (q9, false)).1.1, 0, (rdAl tx ln (q9, false)).1.2.1, (rdAl tx ln (q9, false)).1.2.2))) ga gh kn gk kp tx ln iz wy wa tt rr we ((rdAl tx ln (q9, false)).2.1) ((rdAl tx ln (q9, false)).2.2) (er3 dn gq S.1 ((0, false), (false, (rdAl tx ln (q9, false)).1.1, 0, (rdAl tx ln (q9, false)).1.2.1, (rdAl tx ln (q9, false)).1.2.2))))) C kv_X7_179 (m_X7_readAlley hI.2.2.1 hn htc f2 (by omega)) dX7_reads_36 rfl rfl rfl rfl rfl rfl ⟨0, rfl⟩ rfl rfl ?_
    refine zj_goto (pc := 39) (tgt := 47) C dX7_reads_39 (by decide) ?_
    have hia : isA tx ln (q9, false) = true := by rw [← nxt_A]; exact c_31
    have e1 : s1P tx ln q9 = (rdAl tx ln (q9, false)).2 := if_pos hia
    have eT := (show TM tx ln q9 = _ from if_pos hia)
    refine zj_blk (bs' := (mB G m (rpG dn gq S.1 (TM tx ln q9)) ga gh kn gk kp tx ln iz wy wa tt rr we ((s1P tx ln q9).1) ((s1P tx ln q9).2) (er3 dn gq S.1 (TM tx ln q9)))) (by rw [e1, eT]) ?_
    have hb := s1P_b (t := tx) (sp := q9) hn hI.1
    refine zj_iinc (pc := 47) (v := nI (k + 1)) C dX7_reads_47 rfl (nI_1 _) ?_
    refine zq_mrg 73 [] (bI ((!(s1P tx ln q9).2) && decide ((s1P tx ln q9).1 < ln))) ?_ (fun kk => ?_)
    · refine zj_istore_n (pc := 73) C dX7_reads_73 (Nat.le_of_ble_eq_true rfl) ?_
      refine zj_iload_n (pc := 74) C dX7_reads_74 rfl ?_
      refine zj_ifb_eq (pc := 75) 19 C dX7_reads_75 (by decide) (fun c_75 => ?_) (fun c_75 => ?_)
      · refine zj_iload_n (pc := 19) C dX7_reads_19 rfl ?_
        refine zj_ifb_eq (pc := 20) 100 C dX7_reads_20 (by decide) (fun c_20 => ?_) (fun c_20 => by rw [c_75] at c_20; cases c_20)
        refine zj_iload_n (pc := 100) C dX7_reads_100 rfl ?_
        refine zj_iret C hr hlocks dX7_reads_101 ?_
        exact ⟨_, _, _, _, _, RI_C hn hI c_75, rfl, rfl⟩
      · have hwl : (s1P tx ln q9).2 = false ∧ (s1P tx ln q9).1 < ln := by simpa using c_75
        obtain ⟨hw9, hl9⟩ := hwl
        refine zj_blk (bs' := (mB G m (rpG dn gq S.1 (TM tx ln q9)) ga gh kn gk kp tx ln iz wy wa tt rr we ((s1P tx ln q9).1) false (er3 dn gq S.1 (TM tx ln q9)))) (by rw [hw9]) ?_
        refine zj_aload_n (pc := 78) C dX7_reads_78 rfl ?_
        refine zj_bipush (pc := 79) (v := nI 59) C dX7_reads_79 (by decide) ?_
        refine zq_callFn (pc := 81) (bs' := (mB G m (rpG dn gq S.1 (TM tx ln q9)) ga gh kn gk kp tx ln iz wy wa tt rr we ((rdS tx ln 59 (((s1P tx ln q9).1), false)).1) ((rdS tx ln 59 (((s1P tx ln q9).1), false)).2) (er3 dn gq S.1 (TM tx ln q9)))) C kv_X7_173 (m_X7_needs hn htc (by decide) (by omega)) dX7_reads_81 rfl rfl rfl rfl rfl rfl ⟨0, rfl⟩ rfl rfl ?_
        refine zj_aload_n (pc := 84) C dX7_reads_84 rfl ?_
        refine gf_X7_15 (pc := 85) C dX7_reads_85 0 rfl ?_
        refine zj_ifb_ne (pc := 88) 95 C dX7_reads_88 (by decide) (fun c_88 => ?_) (fun c_88 => ?_)
        · refine zj_iconst (pc := 95) (v := nI 0) C dX7_reads_95 (by decide) ?_
          refine zj_istore_n (pc := 96) C dX7_reads_96 (Nat.le_of_ble_eq_true rfl) ?_
          refine zj_goto (pc := 97) (tgt := 19) C dX7_reads_97 (by decide) ?_
          refine zj_iload_n (pc := 19) C dX7_reads_19 rfl ?_
          refine zq_if_eq (pc := 20) 100 C dX7_reads_20 (by decide) (by omega) (fun c_20 => ?_) (fun c_20 => absurd rfl c_20)
          refine zj_iload_n (pc := 100) C dX7_reads_100 rfl ?_
          refine zj_iret C hr hlocks dX7_reads_101 ?_
          exact ⟨_, _, _, _, _, (by rw [c_88]; exact RI_3 hn hI hw9 hl9 c_88), rfl, rfl⟩
        · refine zj_iconst (pc := 91) (v := nI 1) C dX7_reads_91 (by decide) ?_
          refine zj_goto (pc := 92) (tgt := 96) C dX7_reads_92 (by decide) ?_
          refine zj_istore_n (pc := 96) C dX7_reads_96 (Nat.le_of_ble_eq_true rfl) ?_
          refine zj_goto (pc := 97) (tgt := 19) C dX7_reads_97 (by decide) ?_
          have h4 := RI_4 hn hI hw9 hl9 c_88
          refine zj_blk (bs' := (mB G m (rpG dn gq S.1 (TM tx ln q9)) ga gh kn gk kp tx ln iz wy wa tt rr we ((rdS tx ln 59 (((s1P tx ln q9).1), false)).1) false (er3 dn gq S.1 (TM tx ln q9)))) (by rw [c_88]) ?_
          refine zj_keep [true, true, true, true] ?_
          exact ih_19 ((rdS tx ln 59 ((s1P tx ln q9).1, false)).1) (k + 1) (rpG dn gq S.1 (TM tx ln q9)) (er3 dn gq S.1 (TM tx ln q9), S.2.1 - 1, rdP tx ln S.2.2.1, rpP dn gq S.1 (TM tx ln q9) S.2.2.2) h4.1 (by have h5 := h4.2; have h6 := hI.1; omega)
    · refine zj_aload_n (pc := 50) C dX7_reads_50 rfl ?_
      refine gf_X7_15 (pc := 51) C dX7_reads_51 0 rfl ?_
      refine zj_ifb_ne (pc := 54) 72 C dX7_reads_54 (by decide) (fun c_54 => ?_) (fun c_54 => ?_)
      · refine zj_iconst (pc := 72) (v := nI 0) C dX7_reads_72 (by decide) ?_
        exact zj_top (x' := bI ((!(s1P tx ln q9).2) && decide ((s1P tx ln q9).1 < ln))) (zq_f (by rw [c_54]; rfl)) kk
      · refine zj_aload_n (pc := 57) C dX7_reads_57 rfl ?_
        refine gf_X7_14 (pc := 58) C dX7_reads_58 0 rfl ?_
        refine zj_aload_n (pc := 61) C dX7_reads_61 rfl ?_
        refine gf_X7_7 (pc := 62) C dX7_reads_62 0 rfl ?_
        refine zq_icmp_ge (pc := 65) 72 C dX7_reads_65 (by decide) (by omega) (by omega) (fun c_65 => ?_) (fun c_65 => ?_)
        · refine zj_iconst (pc := 72) (v := nI 0) C dX7_reads_72 (by decide) ?_
          exact zj_top (x' := bI ((!(s1P tx ln q9).2) && decide ((s1P tx ln q9).1 < ln))) (zq_f (by rw [c_54, decide_eq_false (by omega)]; rfl)) kk
        · refine zj_iconst (pc := 68) (v := nI 1) C dX7_reads_68 (by decide) ?_
          refine zj_goto (pc := 69) (tgt := 73) C dX7_reads_69 (by decide) ?_
          exact zj_top (x' := bI ((!(s1P tx ln q9).2) && decide ((s1P tx ln q9).1 < ln))) (zq_t (by rw [c_54, decide_eq_true c_65]; rfl)) kk
set_option maxRecDepth 100000 in
set_option maxHeartbeats 4000000 in
theorem m_X7_exchanges {l : Launch} {G : GG} {m : Nat → Nat} {g ga gh : Nat → Nat} {kn : Nat} {gk : Nat → Nat} {kp : Bool} {tx : Nat → Nat} {ln : Nat} {iz wy wa tt rr we : Nat → Nat} {sp : Nat} {wr : Bool} {er : Int32} : zX l G yX7_exchanges cX7_exchanges 3 none 0 0 0 0 [.ref (m 0)] (mB G m g ga gh kn gk kp tx ln iz wy wa tt rr we sp wr er).flatten (zF none (mB G m ga g gh kn gk kp tx ln iz wy wa tt rr we sp wr er).flatten) := by
  refine zj_startF RX7 (by decide +kernel) rfl rfl rfl (bs := (mB G m g ga gh kn gk kp tx ln iz wy wa tt rr we sp wr er)) rfl (lo := [some (.ref (m 0)), none, none]) rfl ?_
  intro p0 e0 s0 m0 args0 below0 meth0 c0 A0 C hr hlocks
  refine zj_iconst (pc := 0) (v := nI 0) C dX7_exchanges_0 (by decide) ?_
  refine zj_istore_n (pc := 1) C dX7_exchanges_1 (Nat.le_of_ble_eq_true rfl) ?_
  refine zj_blk (bs' := (mB G m (cyI ga g 0) (cyI g ga 0) gh kn gk kp tx ln iz wy wa tt rr we sp wr er)) (by rw [cyI_0, cyI_0]) ?_
  refine zj_keep [true, true, false] ?_
  refine zq_loop1 (fun (j : Nat) => j ≤ 177) (fun (j : Nat) => 177 - j) (fun (j : Nat) => (mB G m (cyI ga g j) (cyI g ga j) gh kn gk kp tx ln iz wy wa tt rr we sp wr er)) (fun (j : Nat) => [some (.ref (m 0)), some (.int (nI (j))), none]) ?_ 0 (Nat.zero_le _)
  intro j hI ih_2
  refine zj_iload_n (pc := 2) C dX7_exchanges_2 rfl ?_
  refine zj_sipush (pc := 3) (v := nI 177) C dX7_exchanges_3 (by decide) ?_
  refine zq_icmp_ge (pc := 6) 41 C dX7_exchanges_6 (by decide) (by omega) (by omega) (fun c_6 => ?_) (fun c_6 => ?_)
  · refine zq_row 1 ga rfl (fun k hk => if_pos (by omega)) ?_
    refine zq_row 2 g rfl (fun k hk => if_pos (by omega)) ?_
    refine zj_blk (bs' := (mB G m ga g gh kn gk kp tx ln iz wy wa tt rr we sp wr er)) rfl ?_
    exact zj_vretF C hr hlocks dX7_exchanges_41 rfl
  · refine zj_aload_n (pc := 9) C dX7_exchanges_9 rfl ?_
    refine gf_X7_0 (pc := 10) C dX7_exchanges_10 0 rfl ?_
    refine zj_iload_n (pc := 13) C dX7_exchanges_13 rfl ?_
    refine zq_iald (pc := 14) C dX7_exchanges_14 1 rfl (by omega) (by decide) ?_
    refine zj_top (x' := nI (g j)) (congrArg nI (if_neg (by omega))) ?_
    refine zj_istore_n (pc := 15) C dX7_exchanges_15 (Nat.le_of_ble_eq_true rfl) ?_
    refine zj_aload_n (pc := 16) C dX7_exchanges_16 rfl ?_
    refine gf_X7_0 (pc := 17) C dX7_exchanges_17 0 rfl ?_
    refine zj_iload_n (pc := 20) C dX7_exchanges_20 rfl ?_
    refine zj_aload_n (pc := 21) C dX7_exchanges_21 rfl ?_
    refine gf_X7_1 (pc := 22) C dX7_exchanges_22 0 rfl ?_
    refine zj_iload_n (pc := 25) C dX7_exchanges_25 rfl ?_
    refine zq_iald (pc := 26) C dX7_exchanges_26 2 rfl (by omega) (by decide) ?_
    refine zj_top (x' := nI (ga j)) (congrArg nI (if_neg (by omega))) ?_
    refine zq_iast (pc := 27) C dX7_exchanges_27 1 rfl (by omega) (by decide) ?_
    refine zj_blk (bs' := (mB G m (updN (cyI ga g j) j (ga j)) (cyI g ga j) gh kn gk kp tx ln iz wy wa tt rr we sp wr er)) rfl ?_
    refine zj_aload_n (pc := 28) C dX7_exchanges_28 rfl ?_
    refine gf_X7_1 (pc := 29) C dX7_exchanges_29 0 rfl ?_
    refine zj_iload_n (pc := 32) C dX7_exchanges_32 rfl ?_
    refine zj_iload_n (pc := 33) C dX7_exchanges_33 rfl ?_
    refine zq_iast (pc := 34) C dX7_exchanges_34 2 rfl (by omega) (by decide) ?_
    refine zj_blk (bs' := (mB G m (updN (cyI ga g j) j (ga j)) (updN (cyI g ga j) j (g j)) gh kn gk kp tx ln iz wy wa tt rr we sp wr er)) rfl ?_
    refine zj_iinc (pc := 35) (v := nI (j + 1)) C dX7_exchanges_35 rfl (nI_1 _) ?_
    refine zj_goto (pc := 38) (tgt := 2) C dX7_exchanges_38 (by decide) ?_
    refine zj_blk (bs' := (mB G m (cyI ga g (j + 1)) (cyI g ga (j + 1)) gh kn gk kp tx ln iz wy wa tt rr we sp wr er)) (by rw [cyI_s, cyI_s]) ?_
    refine zj_keep [true, true, false] ?_
    exact ih_2 (j + 1) (by omega) (by omega)
set_option maxRecDepth 100000 in
set_option maxHeartbeats 4000000 in
theorem m_X7_fault {l : Launch} {G : GG} {m : Nat → Nat} {g ga gh : Nat → Nat} {kn : Nat} {gk : Nat → Nat} {kp : Bool} {tx : Nat → Nat} {ln : Nat} {iz wy wa tt rr we : Nat → Nat} {sp : Nat} {wr : Bool} {er : Int32} {X : Bool × Nat × Nat × Nat × Nat} {P0 : PC} (hP : PR g P0) (hv : Vg g) (hn : ln ≤ 60) (htc : ∀ k, k < ln → tx k < 65536) : zX l G yX7_fault cX7_fault 2 (some .int) 5 115 0 0 [.ref (m 0)] (mB G m g ga gh kn gk kp tx ln iz wy wa tt rr we sp wr er).flatten (fun v w => v = some (.int (optI (F60 tx ln X))) ∧ ∃ p8 w8 e8, w = (mB G m g ga gh kn gk kp tx ln iz wy wa tt rr we p8 w8 e8).flatten) := by
  refine zj_startF RX7 (by decide +kernel) rfl rfl rfl (bs := (mB G m g ga gh kn gk kp tx ln iz wy wa tt rr we sp wr er)) rfl (lo := [some (.ref (m 0)), none]) rfl ?_
  intro p0 e0 s0 m0 args0 below0 meth0 c0 A0 C hr hlocks
  refine zj_aload_n (pc := 0) C dX7_fault_0 rfl ?_
  refine zj_iconst (pc := 1) (v := nI 0) C dX7_fault_1 (by decide) ?_
  refine zj_stk (st' := [.int (bI false), .ref (m 0)]) rfl ?_
  refine zq_callR2 (pc := 2) C kv_X7_186 (m_X7_reads (dn := false) (X := X) hP hv hn htc) dX7_fault_2 rfl rfl rfl rfl rfl rfl ⟨0, rfl⟩ rfl rfl (fun k2 p2 w2 e2 g2 hC2 => ?_)
  refine zj_blk (bs' := (mB G m g ga gh kn gk kp tx ln iz wy wa tt rr we p2 w2 e2)) (by rw [hC2.2.2.1 rfl]) ?_
  refine zj_istore_n (pc := 5) C dX7_fault_5 (Nat.le_of_ble_eq_true rfl) ?_
  refine zj_aload_n (pc := 6) C dX7_fault_6 rfl ?_
  refine gf_X7_15 (pc := 7) C dX7_fault_7 0 rfl ?_
  refine zj_ifb_eq (pc := 10) 20 C dX7_fault_10 (by decide) (fun c_10 => ?_) (fun c_10 => ?_)
  · refine zj_bipush (pc := 20) (v := (-5)) C dX7_fault_20 (by decide) ?_
    refine zj_iret C hr hlocks dX7_fault_22 ?_
    exact ⟨by rw [hC2.2.1 c_10]; rfl, _, _, _, rfl⟩
  · refine zj_aload_n (pc := 13) C dX7_fault_13 rfl ?_
    refine gf_X7_14 (pc := 14) C dX7_fault_14 0 rfl ?_
    refine zj_goto (pc := 17) (tgt := 22) C dX7_fault_17 (by decide) ?_
    refine zj_iret C hr hlocks dX7_fault_22 ?_
    exact ⟨by rw [hC2.1 c_10]; rfl, _, _, _, rfl⟩
set_option maxRecDepth 100000 in
set_option maxHeartbeats 4000000 in
theorem m_X7_tellAll {l : Launch} {G : GG} {m : Nat → Nat} {g ga gh : Nat → Nat} {kn : Nat} {gk : Nat → Nat} {kp : Bool} {tx : Nat → Nat} {ln : Nat} {iz wy wa tt rr we : Nat → Nat} {sp : Nat} {wr : Bool} {er : Int32} {X1 X2 : Bool × Nat × Nat × Nat × Nat} {P0 : PC} (hP : PR g P0) (hv : Vg g) (hk : kn ≤ 4) (hn : ln ≤ 60) (htc : ∀ k, k < ln → tx k < 65536) : zX l G yX7_tellAll cX7_tellAll 3 (some .int) 5 115 0 0 [.ref (m 0)] (mB G m g ga gh kn gk kp tx ln iz wy wa tt rr we sp wr er).flatten (zT G m g gh kn gk kp tx ln iz wy wa tt rr we (tlA tx ln X1 X2 g P0) (tlO tx ln X1 X2 g P0) (A60 tx ln X2 g P0).2.2.2.1) := by
  refine zj_startF RX7 (by decide +kernel) rfl rfl rfl (bs := (mB G m g ga gh kn gk kp tx ln iz wy wa tt rr we sp wr er)) rfl (lo := [some (.ref (m 0)), none, none]) rfl ?_
  intro p0 e0 s0 m0 args0 below0 meth0 c0 A0 C hr hlocks
  refine zj_aload_n (pc := 0) C dX7_tellAll_0 rfl ?_
  refine zj_iconst (pc := 1) (v := nI 0) C dX7_tellAll_1 (by decide) ?_
  refine zj_stk (st' := [.int (bI false), .ref (m 0)]) rfl ?_
  refine zq_callR2 (pc := 2) C kv_X7_186 (m_X7_reads (dn := false) (X := X1) hP hv hn htc) dX7_tellAll_2 rfl rfl rfl rfl rfl rfl ⟨0, rfl⟩ rfl rfl (fun k2 p2 w2 e2 g2 hC2 => ?_)
  refine zj_blk (bs' := (mB G m g ga gh kn gk kp tx ln iz wy wa tt rr we p2 w2 e2)) (by rw [hC2.2.2.1 rfl]) ?_
  refine zj_istore_n (pc := 5) C dX7_tellAll_5 (Nat.le_of_ble_eq_true rfl) ?_
  refine zj_aload_n (pc := 6) C dX7_tellAll_6 rfl ?_
  refine gf_X7_15 (pc := 7) C dX7_tellAll_7 0 rfl ?_
  refine zj_ifb_eq (pc := 10) 21 C dX7_tellAll_10 (by decide) (fun c_10 => ?_) (fun c_10 => ?_)
  · refine zj_iconst (pc := 21) (v := nI 0) C dX7_tellAll_21 (by decide) ?_
    refine zj_istore_n (pc := 22) C dX7_tellAll_22 (Nat.le_of_ble_eq_true rfl) ?_
    refine zj_blk (bs' := (mB G m g (cyI g ga 0) gh kn gk kp tx ln iz wy wa tt rr we p2 w2 e2)) (by rw [cyI_0]) ?_
    refine zj_keep [true, true, true] ?_
    refine zq_loop1 (fun (j : Nat) => j ≤ 177) (fun (j : Nat) => 177 - j) (fun (j : Nat) => (mB G m g (cyI g ga j) gh kn gk kp tx ln iz wy wa tt rr we p2 w2 e2)) (fun (j : Nat) => [some (.ref (m 0)), some (.int (nI (k2))), some (.int (nI (j)))]) ?_ 0 (Nat.zero_le _)
    intro j hI ih_23
    refine zj_iload_n (pc := 23) C dX7_tellAll_23 rfl ?_
    refine zj_sipush (pc := 24) (v := nI 177) C dX7_tellAll_24 (by decide) ?_
    refine zq_icmp_ge (pc := 27) 48 C dX7_tellAll_27 (by decide) (by omega) (by omega) (fun c_27 => ?_) (fun c_27 => ?_)
    · refine zq_row 2 g rfl (fun k hk => if_pos (by omega)) ?_
      refine zj_blk (bs' := (mB G m g g gh kn gk kp tx ln iz wy wa tt rr we p2 w2 e2)) rfl ?_
      refine zj_aload_n (pc := 48) C dX7_tellAll_48 rfl ?_
      refine zj_iconst (pc := 49) (v := nI 1) C dX7_tellAll_49 (by decide) ?_
      refine zj_stk (st' := [.int (bI true), .ref (m 0)]) rfl ?_
      refine zq_callR2 (pc := 50) C kv_X7_186 (m_X7_reads (dn := true) (X := X2) hP hv hn htc) dX7_tellAll_50 rfl rfl rfl rfl rfl rfl ⟨0, rfl⟩ rfl rfl (fun k50 p50 w50 e50 g50 hC50 => ?_)
      refine zj_istore_n (pc := 53) C dX7_tellAll_53 (Nat.le_of_ble_eq_true rfl) ?_
      refine zj_aload_n (pc := 54) C dX7_tellAll_54 rfl ?_
      refine gf_X7_16 (pc := 55) C dX7_tellAll_55 0 rfl ?_
      refine zj_istore_n (pc := 58) C dX7_tellAll_58 (Nat.le_of_ble_eq_true rfl) ?_
      refine zj_aload_n (pc := 59) C dX7_tellAll_59 rfl ?_
      refine zq_callFn (pc := 60) (bs' := (mB G m g g50 gh kn gk kp tx ln iz wy wa tt rr we p50 w50 e50)) C kv_X7_190 (m_X7_exchanges) dX7_tellAll_60 rfl rfl rfl rfl rfl rfl ⟨0, rfl⟩ rfl rfl ?_
      refine zj_iload_n (pc := 63) C dX7_tellAll_63 rfl ?_
      refine zj_if_eq (pc := 64) 69 C dX7_tellAll_64 (by decide) (fun c_64 => ?_) (fun c_64 => ?_)
      · refine zj_aload_n (pc := 69) C dX7_tellAll_69 rfl ?_
        refine zq_callFn (pc := 70) (bs' := (mB G m g g50 (rcH gh g kn) (rcN kn) gk kp tx ln iz wy wa tt rr we p50 w50 e50)) C kv_X7_134 (m_X7_record (by omega)) dX7_tellAll_70 rfl rfl rfl rfl rfl rfl ⟨0, rfl⟩ rfl rfl ?_
        refine zj_aload_n (pc := 73) C dX7_tellAll_73 rfl ?_
        refine zq_callFn (pc := 74) (bs' := (mB G m g50 g (rcH gh g kn) (rcN kn) gk kp tx ln iz wy wa tt rr we p50 w50 e50)) C kv_X7_190 (m_X7_exchanges) dX7_tellAll_74 rfl rfl rfl rfl rfl rfl ⟨0, rfl⟩ rfl rfl ?_
        refine zj_iload_n (pc := 77) C dX7_tellAll_77 rfl ?_
        refine zj_iret C hr hlocks dX7_tellAll_78 ?_
        have hF := hC2.2.1 c_10
        have hr2 := (hC50.2.2.2 rfl (F60_X.trans hF)).resolve_right (fun q => q.1 c_64)
        obtain ⟨-, q1, q2, q3⟩ := hr2
        exact ⟨by unfold tlA; rw [hF]; show _ = some (Value.int (match (A60 tx ln X2 g P0).1 with | some r => r | none => nI (A60 tx ln X2 g P0).2.1)); rw [q1, q2], _, _, _, _, by have e : tlO tx ln X1 X2 g P0 = true := by { unfold tlO; rw [hF, q1]; rfl }; rw [e, q3]; rfl⟩
      · refine zj_iload_n (pc := 67) C dX7_tellAll_67 rfl ?_
        refine zj_iret C hr hlocks dX7_tellAll_68 ?_
        have hF := hC2.2.1 c_10
        have hr2 := (hC50.2.2.2 rfl (F60_X.trans hF)).resolve_left (fun q => c_64 q.1)
        exact ⟨by unfold tlA; rw [hF]; show _ = some (Value.int (match (A60 tx ln X2 g P0).1 with | some r => r | none => nI (A60 tx ln X2 g P0).2.1)); rw [hr2.2], _, _, _, _, by have e : tlO tx ln X1 X2 g P0 = false := by { unfold tlO; rw [hr2.2]; simp }; rw [e]; rfl⟩
    · refine zj_aload_n (pc := 30) C dX7_tellAll_30 rfl ?_
      refine gf_X7_1 (pc := 31) C dX7_tellAll_31 0 rfl ?_
      refine zj_iload_n (pc := 34) C dX7_tellAll_34 rfl ?_
      refine zj_aload_n (pc := 35) C dX7_tellAll_35 rfl ?_
      refine gf_X7_0 (pc := 36) C dX7_tellAll_36 0 rfl ?_
      refine zj_iload_n (pc := 39) C dX7_tellAll_39 rfl ?_
      refine zq_iald (pc := 40) C dX7_tellAll_40 1 rfl (by omega) (by decide) ?_
      refine zq_iast (pc := 41) C dX7_tellAll_41 2 rfl (by omega) (by decide) ?_
      refine zj_blk (bs' := (mB G m g (updN (cyI g ga j) j (g j)) gh kn gk kp tx ln iz wy wa tt rr we p2 w2 e2)) rfl ?_
      refine zj_iinc (pc := 42) (v := nI (j + 1)) C dX7_tellAll_42 rfl (nI_1 _) ?_
      refine zj_goto (pc := 45) (tgt := 23) C dX7_tellAll_45 (by decide) ?_
      refine zj_blk (bs' := (mB G m g (cyI g ga (j + 1)) gh kn gk kp tx ln iz wy wa tt rr we p2 w2 e2)) (by rw [cyI_s]) ?_
      refine zj_keep [true, true, true] ?_
      exact ih_23 (j + 1) (by omega) (by omega)
  · refine zj_bipush (pc := 13) (v := (-100)) C dX7_tellAll_13 (by decide) ?_
    refine zj_aload_n (pc := 15) C dX7_tellAll_15 rfl ?_
    refine gf_X7_14 (pc := 16) C dX7_tellAll_16 0 rfl ?_
    refine zj_isub (pc := 19) C dX7_tellAll_19 ?_
    refine zj_iret C hr hlocks dX7_tellAll_20 ?_
    have hF := hC2.1 c_10
    exact ⟨by unfold tlA; rw [hF], _, _, _, _, by have e : tlO tx ln X1 X2 g P0 = false := by { unfold tlO; rw [hF]; rfl }; rw [e]; rfl⟩
