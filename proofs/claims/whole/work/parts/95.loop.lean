/-! THE LAW'S LOOP -/
section ZLOOP
variable {p : Program} {l : Launch} {e : Env} {s : State} {m : MethodId} {args : Array Value} {below : List Frame} {meth : Method} {c : Code} {G : GG} {A : Nat → Prop} {Q : State → Prop} {b L a r : Nat} {xs : Nat → Int32}
set_option maxRecDepth 100000 in
set_option maxHeartbeats 4000000 in
theorem lk_disp {i : Nat} {wc wm : va_W} (C : zC p s m args c cL_law RL 8 G A) (hX : va_X b L xs s s.heap) (hbl : b < s.heap.size) (hbA : ¬ A b) (hL : L ≤ 2560) (hi : i + 5 ≤ L) (hN : NX p l e s m args below meth c G A Q a r b i) (hI : IV G a r wc wm) : Zj p l e room_1 s m args below meth c G A 88 6878 Q [wc, wm] (LO a r b i) 26 [] := by
  refine zj_aload_n (pc := 26) C dL_law_26 rfl ?_
  refine zj_iload_n (pc := 27) C dL_law_27 rfl ?_
  refine zj_sld (pc := 28) i C hX hbl hbA hL dL_law_28 rfl (by omega) ?_
  refine zj_bipush (pc := 29) (v := 31) C dL_law_29 (by decide) ?_
  refine zj_iand (pc := 31) C dL_law_31 ?_
  obtain ⟨k, hk, ek⟩ := and31 (xs i)
  refine zj_top ek ?_
  by_cases h25 : 25 ≤ k
  · exact zj_tableOut (pc := 32) (tgt := 901) C dL_law_32 (Or.inr (by rw [nI_toInt (by omega)]; omega)) (by decide) (lk_next C hN hI)
  rcases (show k = 0 ∨ k = 1 ∨ k = 2 ∨ k = 3 ∨ k = 4 ∨ k = 5 ∨ k = 6 ∨ k = 7 ∨ k = 8 ∨ k = 9 ∨ k = 10 ∨ k = 11 ∨ k = 12 ∨ k = 13 ∨ k = 14 ∨ k = 15 ∨ k = 16 ∨ k = 17 ∨ k = 18 ∨ k = 19 ∨ k = 20 ∨ k = 21 ∨ k = 22 ∨ k = 23 ∨ k = 24 by omega) with rfl | rfl | rfl | rfl | rfl | rfl | rfl | rfl | rfl | rfl | rfl | rfl | rfl | rfl | rfl | rfl | rfl | rfl | rfl | rfl | rfl | rfl | rfl | rfl | rfl
  · exact zj_tableIn (pc := 32) (off := 116) 148 C dL_law_32 (by decide) (by decide) rfl (by decide) (lk_0 C hX hbl hbA hL hi hN hI)
  · exact zj_tableIn (pc := 32) (off := 169) 201 C dL_law_32 (by decide) (by decide) rfl (by decide) (lk_1 C hX hbl hbA hL hi hN hI)
  · exact zj_tableIn (pc := 32) (off := 192) 224 C dL_law_32 (by decide) (by decide) rfl (by decide) (lk_2 C hX hbl hbA hL hi hN hI)
  · exact zj_tableIn (pc := 32) (off := 241) 273 C dL_law_32 (by decide) (by decide) rfl (by decide) (lk_3 C hX hbl hbA hL hi hN hI)
  · exact zj_tableIn (pc := 32) (off := 274) 306 C dL_law_32 (by decide) (by decide) rfl (by decide) (lk_4 C hX hbl hbA hL hi hN hI)
  · exact zj_tableIn (pc := 32) (off := 317) 349 C dL_law_32 (by decide) (by decide) rfl (by decide) (lk_5 C hX hbl hbA hL hi hN hI)
  · exact zj_tableIn (pc := 32) (off := 340) 372 C dL_law_32 (by decide) (by decide) rfl (by decide) (lk_6 C hX hbl hbA hL hi hN hI)
  · exact zj_tableIn (pc := 32) (off := 353) 385 C dL_law_32 (by decide) (by decide) rfl (by decide) (lk_7 C hX hbl hbA hL hi hN hI)
  · exact zj_tableIn (pc := 32) (off := 378) 410 C dL_law_32 (by decide) (by decide) rfl (by decide) (lk_8 C hX hbl hbA hL hi hN hI)
  · exact zj_tableIn (pc := 32) (off := 391) 423 C dL_law_32 (by decide) (by decide) rfl (by decide) (lk_9 C hX hbl hbA hL hi hN hI)
  · exact zj_tableIn (pc := 32) (off := 404) 436 C dL_law_32 (by decide) (by decide) rfl (by decide) (lk_10 C hX hbl hbA hL hi hN hI)
  · exact zj_tableIn (pc := 32) (off := 417) 449 C dL_law_32 (by decide) (by decide) rfl (by decide) (lk_11 C hX hbl hbA hL hi hN hI)
  · exact zj_tableIn (pc := 32) (off := 430) 462 C dL_law_32 (by decide) (by decide) rfl (by decide) (lk_12 C hX hbl hbA hL hi hN hI)
  · exact zj_tableIn (pc := 32) (off := 443) 475 C dL_law_32 (by decide) (by decide) rfl (by decide) (lk_13 C hX hbl hbA hL hi hN hI)
  · exact zj_tableIn (pc := 32) (off := 476) 508 C dL_law_32 (by decide) (by decide) rfl (by decide) (lk_14 C hX hbl hbA hL hi hN hI)
  · exact zj_tableIn (pc := 32) (off := 509) 541 C dL_law_32 (by decide) (by decide) rfl (by decide) (lk_15 C hX hbl hbA hL hi hN hI)
  · exact zj_tableIn (pc := 32) (off := 542) 574 C dL_law_32 (by decide) (by decide) rfl (by decide) (lk_16 C hX hbl hbA hL hi hN hI)
  · exact zj_tableIn (pc := 32) (off := 585) 617 C dL_law_32 (by decide) (by decide) rfl (by decide) (lk_17 C hX hbl hbA hL hi hN hI)
  · exact zj_tableIn (pc := 32) (off := 628) 660 C dL_law_32 (by decide) (by decide) rfl (by decide) (lk_18 C hX hbl hbA hL hi hN hI)
  · exact zj_tableIn (pc := 32) (off := 671) 703 C dL_law_32 (by decide) (by decide) rfl (by decide) (lk_19 C hX hbl hbA hL hi hN hI)
  · exact zj_tableIn (pc := 32) (off := 704) 736 C dL_law_32 (by decide) (by decide) rfl (by decide) (lk_20 C hX hbl hbA hL hi hN hI)
  · exact zj_tableIn (pc := 32) (off := 767) 799 C dL_law_32 (by decide) (by decide) rfl (by decide) (lk_21 C hX hbl hbA hL hi hN hI)
  · exact zj_tableIn (pc := 32) (off := 790) 822 C dL_law_32 (by decide) (by decide) rfl (by decide) (lk_22 C hX hbl hbA hL hi hN hI)
  · exact zj_tableIn (pc := 32) (off := 823) 855 C dL_law_32 (by decide) (by decide) rfl (by decide) (lk_23 C hX hbl hbA hL hi hN hI)
  · exact zj_tableIn (pc := 32) (off := 836) 868 C dL_law_32 (by decide) (by decide) rfl (by decide) (lk_24 C hX hbl hbA hL hi hN hI)
theorem lk_loop (C : zC p s m args c cL_law RL 8 G A) (hX : va_X b L xs s s.heap) (hbl : b < s.heap.size) (hbA : ¬ A b) (hL : L ≤ 2560) (hE : ∀ (wc wm : va_W) (i : Nat), Zj p l e room_1 s m args below meth c G A 88 6878 Q [wc, wm] (LO a r b i) 907 []) : ∀ y : Nat × va_W × va_W, y.1 ≤ 2560 ∧ IV G a r y.2.1 y.2.2 → Zj p l e room_1 s m args below meth c G A 88 6878 Q [y.2.1, y.2.2] (LO a r b y.1) 18 [] := by
  refine zj_loopW (fun y : Nat × va_W × va_W => y.1 ≤ 2560 ∧ IV G a r y.2.1 y.2.2) (fun y => 3000 - y.1) (fun y => [y.2.1, y.2.2]) (fun y => LO a r b y.1) ?_
  rintro ⟨i, wc, wm⟩ ⟨hi, hI⟩ ih
  dsimp only at hi hI ⊢
  refine zj_iload_n (pc := 18) C dL_law_18 rfl ?_
  refine zj_aload_n (pc := 19) C dL_law_19 rfl ?_
  refine zj_slen (pc := 20) C hX hbl hbA dL_law_20 ?_
  refine zj_iconst (pc := 21) (v := nI 5) C dL_law_21 rfl ?_
  refine zj_isub (pc := 22) C dL_law_22 ?_
  refine zj_icmp_gt (pc := 23) 907 C dL_law_23 (by decide) (fun _ => hE wc wm i) (fun h => ?_)
  rw [Int32.lt_iff_toInt_lt, pk_sub_toInt (by omega) (by decide), nI_toInt (by omega)] at h
  have h5 : i + 5 ≤ L := by omega
  exact lk_disp C hX hbl hbA hL h5 (fun wc' wm' hI' => ih (i + 5, wc', wm') ⟨by dsimp only; omega, hI'⟩ (by dsimp only; omega)) hI
end ZLOOP
