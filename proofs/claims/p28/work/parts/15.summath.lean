/-! WORKING OUT: what the rows become -/
section ZT
variable {p : Program} {l : Launch} {e : Env} {R : Room} {s : State} {m : MethodId} {args : Array Value} {below : List Frame} {meth : Method} {c : Code} {G : GG} {A : Nat → Prop} {cells slots : Nat} {Q : State → Prop} {bs : List va_W} {lo : List (Option Value)} {pc : Nat} {st : List Value}
theorem zj_tbl (i : Nat) {a b n : Nat} {cl r : Int32} {f : Nat → Int32} (g : Nat → Int32) (hb : bs[i]? = some (tbl G a b n cl f r)) (h : ∀ k, k < n → f k = g k) (k : Zj p l e R s m args below meth c G A cells slots Q (bs.set i (tbl G a b n cl g r)) lo pc st) : Zj p l e R s m args below meth c G A cells slots Q bs lo pc st := by
  obtain ⟨rest, h1, h2⟩ := zr_1 hb
  refine zj_eqp (bs' := [[(b, .inl (G.2 0, n, .inl f))], [(a, .inr (2, [.ref b, .int cl, .int r]))], rest]) ?_ ?_
  · refine h1.trans ?_
    show ((a, _) :: (b, _) :: ([] ++ rest)).Perm ((b, _) :: (a, _) :: (rest ++ []))
    rw [List.append_nil, List.nil_append]
    exact List.Perm.swap _ _ _
  · refine zj_row 0 g rfl h ?_
    refine zj_eqp (bs' := bs.set i (tbl G a b n cl g r)) ?_ k
    refine List.Perm.trans ?_ (h2 (tbl G a b n cl g r)).symm
    show ((b, _) :: (a, _) :: (rest ++ [])).Perm ((a, _) :: (b, _) :: ([] ++ rest))
    rw [List.append_nil, List.nil_append]
    exact List.Perm.swap _ _ _
end ZT
def updN (f : Nat → Nat) (k v : Nat) : Nat → Nat := fun j => if j = k then v else f j
theorem nF_upd {f : Nat → Nat} {k v : Nat} : upd (nF f) k (nI v) = nF (updN f k v) := by
  funext j
  unfold nF updN
  by_cases h : j = k
  · subst h; rw [pk_us, if_pos rfl]
  · rw [pk_un h, if_neg h]
theorem tPut_s {f : Nat → Nat} {x al v : Nat} (hx : x < 14) (ha : al < 12) : tPut 168 (nI 12) (nF f) (nI x) (nI al) (nI v) = nF (updN f (x * 12 + al) v) := by
  rw [tPut_n (by omega) (by decide), nF_upd]
theorem tPut_1 {n : Nat} {f : Nat → Nat} {x v : Nat} (hx : x < n) (hn : n < 2 ^ 31) : tPut n (nI 1) (nF f) (nI x) 0 (nI v) = nF (updN f x v) := by
  have := tPut_n (n := n) (cn := 1) (i := x) (j := 0) (f := nF f) (v := nI v) (by omega) hn
  rw [show x * 1 + 0 = x by omega] at this
  exact this.trans nF_upd
-- districts and gates
def dsV (D : Nat → Nat → Nat → Nat) (x : Nat) : Nat := bitS (fun d => D d x x == 0) 4
def gaI (D : Nat → Nat → Nat → Nat) (i d : Nat) : Nat := if 1 ≤ d ∧ d < 4 then bitS (fun x => D 0 x x == 0 && D d x x == 0) i else 0
def gaV (D : Nat → Nat → Nat → Nat) (d : Nat) : Nat := gaI D 14 d
def dsI (D : Nat → Nat → Nat → Nat) (di : Nat → Nat) (i : Nat) : Nat → Nat := fun k => if k < i then dsV D k else di k
def agI (ga : Nat → Nat) (x s k : Nat) : Nat → Nat := fun d => if 1 ≤ d ∧ d < k ∧ bitB s d = true then ga d + 2 ^ x else ga d
theorem dsV_lt (D : Nat → Nat → Nat → Nat) (x : Nat) : dsV D x < 16 := bitS_lt _ 4
theorem dsV_bit {D : Nat → Nat → Nat → Nat} {x d : Nat} (hd : d < 4) : bitB (dsV D x) d = (D d x x == 0) := by
  unfold dsV
  rw [bitB_S]
  simp [hd]
theorem gaI_lt (D : Nat → Nat → Nat → Nat) (i d : Nat) : gaI D i d < 2 ^ i := by
  unfold gaI
  split
  · exact bitS_lt _ i
  · exact Nat.two_pow_pos i
theorem gaV_lt (D : Nat → Nat → Nat → Nat) (d : Nat) : gaV D d < 16384 := gaI_lt D 14 d
theorem gaV_bit {D : Nat → Nat → Nat → Nat} {x d : Nat} (hx : x < 14) (h1 : 1 ≤ d) (hd : d < 4) : bitB (gaV D d) x = (D 0 x x == 0 && D d x x == 0) := by
  unfold gaV gaI
  rw [if_pos ⟨h1, hd⟩, bitB_S]
  simp [hx]
theorem gaV_0 {D : Nat → Nat → Nat → Nat} {x : Nat} : bitB (gaV D 0) x = false := by
  unfold gaV gaI bitB
  rw [if_neg (by omega)]
  simp
theorem agI_1 {ga : Nat → Nat} {x s : Nat} : agI ga x s 1 = ga := by
  funext d
  unfold agI
  rw [if_neg (by omega)]
theorem agI_t {ga : Nat → Nat} {x s k : Nat} (h1 : 1 ≤ k) (h : bitB s k = true) : updN (agI ga x s k) k (agI ga x s k k + 2 ^ x) = agI ga x s (k + 1) := by
  funext d
  unfold updN agI
  by_cases hd : d = k
  · subst hd
    rw [if_pos rfl, if_neg (by omega), if_pos ⟨h1, by omega, h⟩]
  · rw [if_neg hd]
    by_cases h2 : 1 ≤ d ∧ d < k ∧ bitB s d = true
    · rw [if_pos h2, if_pos ⟨h2.1, by omega, h2.2.2⟩]
    · rw [if_neg h2, if_neg (fun q => h2 ⟨q.1, by omega, q.2.2⟩)]
theorem agI_f {ga : Nat → Nat} {x s k : Nat} (h : bitB s k = false) : agI ga x s k = agI ga x s (k + 1) := by
  funext d
  unfold agI
  by_cases h2 : 1 ≤ d ∧ d < k ∧ bitB s d = true
  · rw [if_pos h2, if_pos ⟨h2.1, by omega, h2.2.2⟩]
  · rw [if_neg h2, if_neg]
    rintro ⟨q1, q2, q3⟩
    by_cases hd : d = k
    · subst hd; rw [h] at q3; cases q3
    · exact h2 ⟨q1, by omega, q3⟩
theorem gaI_t {D : Nat → Nat → Nat → Nat} {i : Nat} (h : (D 0 i i == 0) = true) : agI (gaI D i) i (dsV D i) 4 = gaI D (i + 1) := by
  funext d
  unfold agI
  by_cases hd : 1 ≤ d ∧ d < 4
  · rw [dsV_bit hd.2]
    unfold gaI
    rw [if_pos hd, if_pos hd]
    show _ = bitS _ i + (if (D 0 i i == 0 && D d i i == 0) then 2 ^ i else 0)
    rw [h, Bool.true_and]
    cases hq : (D d i i == 0) with
    | true => rw [if_pos ⟨hd.1, hd.2, rfl⟩]; rfl
    | false => rw [if_neg (fun q => by cases q.2.2)]; rfl
  · rw [if_neg (fun q => hd ⟨q.1, q.2.1⟩)]
    unfold gaI
    rw [if_neg hd, if_neg hd]
theorem gaI_f {D : Nat → Nat → Nat → Nat} {i : Nat} (h : (D 0 i i == 0) = false) : gaI D i = gaI D (i + 1) := by
  funext d
  unfold gaI
  by_cases hd : 1 ≤ d ∧ d < 4
  · rw [if_pos hd, if_pos hd]
    show _ = bitS _ i + (if (D 0 i i == 0 && D d i i == 0) then 2 ^ i else 0)
    rw [h, Bool.false_and]
    rfl
  · rw [if_neg hd, if_neg hd]
theorem dsI_s {D : Nat → Nat → Nat → Nat} {di : Nat → Nat} {i : Nat} : updN (dsI D di i) i (dsV D i) = dsI D di (i + 1) := by
  funext k
  unfold updN dsI
  by_cases hk : k = i
  · subst hk; rw [if_pos rfl, if_pos (by omega)]
  · rw [if_neg hk]
    by_cases h2 : k < i
    · rw [if_pos h2, if_pos (by omega)]
    · rw [if_neg h2, if_neg (by omega)]
theorem dsI_self {D : Nat → Nat → Nat → Nat} {di : Nat → Nat} {i : Nat} : dsI D di (i + 1) i = dsV D i := by
  unfold dsI
  rw [if_pos (by omega)]
def zrI (ga : Nat → Nat) (i : Nat) : Nat → Nat := fun k => if k < i then 0 else ga k
theorem zrI_s {ga : Nat → Nat} {i : Nat} : updN (zrI ga i) i 0 = zrI ga (i + 1) := by
  funext k
  unfold updN zrI
  by_cases hk : k = i
  · subst hk; rw [if_pos rfl, if_pos (by omega)]
  · rw [if_neg hk]
    by_cases h2 : k < i
    · rw [if_pos h2, if_pos (by omega)]
    · rw [if_neg h2, if_neg (by omega)]
theorem bitS_t {p : Nat → Bool} {n : Nat} (h : p n = true) : bitS p (n + 1) = bitS p n + 2 ^ n := by
  show bitS p n + (if p n then 2 ^ n else 0) = _
  rw [if_pos h]
theorem bitS_f {p : Nat → Bool} {n : Nat} (h : p n = false) : bitS p (n + 1) = bitS p n := by
  show bitS p n + (if p n then 2 ^ n else 0) = _
  rw [h]; rfl
-- the totals of an alley
def stS (s : Nat) : Nat := if s < 1000000 then s else 1000000
def stR (s r : Nat) : Nat := if s < 1000000 then r else 0
def lBN (D : Nat → Nat → Nat → Nat) (di ga N : Nat → Nat) (x : Nat) : Nat → Nat
  | 0 => 1000000
  | d + 1 => if bitB (di x) (d + 1) then minA (lBN D di ga N x d) (fun k => bitB (ga (d + 1)) k) (fun k => D (d + 1) x k + N k) 14 else lBN D di ga N x d
def npS (D : Nat → Nat → Nat → Nat) (di ga : Nat → Nat) (c l d x : Nat) : Nat := if D d x c < 1000000 then stS (D d x c + l) else if bitB (di x) 0 then stS (lOB D ga x d c + l) else 1000000
def npR (D : Nat → Nat → Nat → Nat) (di ga : Nat → Nat) (c l d x : Nat) : Nat := if D d x c < 1000000 then stR (D d x c + l) 1 else if bitB (di x) 0 then stR (lOB D ga x d c + l) 2 else 0
def fpS (D : Nat → Nat → Nat → Nat) (di ga : Nat → Nat) (c l d x : Nat) : Nat := if bitB (di x) 0 = false ∧ npR D di ga c l d x = 0 then stS (lBN D di ga (npS D di ga c l d) x 3) else npS D di ga c l d x
def fpR (D : Nat → Nat → Nat → Nat) (di ga : Nat → Nat) (c l d x : Nat) : Nat := if bitB (di x) 0 = false ∧ npR D di ga c l d x = 0 then stR (lBN D di ga (npS D di ga c l d) x 3) 3 else npR D di ga c l d x
def tS (D : Nat → Nat → Nat → Nat) (di ga : Nat → Nat) (c l d x : Nat) : Nat := if bitB (di c) d then fpS D di ga c l d x else 1000000
def tR (D : Nat → Nat → Nat → Nat) (di ga : Nat → Nat) (c l d x : Nat) : Nat := if bitB (di c) d then fpR D di ga c l d x else 0
def colI (su : Nat → Nat) (al : Nat) (F : Nat → Nat) (i : Nat) : Nat → Nat := fun k => if k % 12 = al ∧ k / 12 < i then F (k / 12) else su k
theorem colI_0 {su F : Nat → Nat} {al : Nat} : colI su al F 0 = su := by
  funext k
  unfold colI
  rw [if_neg (by omega)]
theorem colI_s {su F : Nat → Nat} {al i : Nat} (ha : al < 12) : updN (colI su al F i) (i * 12 + al) (F i) = colI su al F (i + 1) := by
  funext k
  unfold updN colI
  by_cases hk : k = i * 12 + al
  · subst hk
    rw [if_pos rfl, if_pos (by omega), show (i * 12 + al) / 12 = i by omega]
  · rw [if_neg hk]
    by_cases h2 : k % 12 = al ∧ k / 12 < i
    · rw [if_pos h2, if_pos ⟨h2.1, by omega⟩]
    · rw [if_neg h2, if_neg (by omega)]
theorem colI_n {su F : Nat → Nat} {al i : Nat} (ha : al < 12) (h : su (i * 12 + al) = F i) : colI su al F i = colI su al F (i + 1) := by
  funext k
  unfold colI
  by_cases h2 : k % 12 = al ∧ k / 12 < i
  · rw [if_pos h2, if_pos ⟨h2.1, by omega⟩]
  · rw [if_neg h2]
    by_cases h3 : k % 12 = al ∧ k / 12 < i + 1
    · rw [if_pos h3]
      have e1 : k = i * 12 + al := by omega
      have e2 : k / 12 = i := by omega
      rw [e2, ← h, e1]
    · rw [if_neg h3]
theorem colI_at {su F : Nat → Nat} {al i x : Nat} (ha : al < 12) : colI su al F i (x * 12 + al) = if x < i then F x else su (x * 12 + al) := by
  unfold colI
  by_cases h : x < i
  · rw [if_pos (by omega), if_pos h, show (x * 12 + al) / 12 = x by omega]
  · rw [if_neg (by omega), if_neg h]
theorem colI_2 {su F F2 : Nat → Nat} {al n : Nat} : colI (colI su al F n) al F2 n = colI su al F2 n := by
  funext k
  unfold colI
  by_cases h : k % 12 = al ∧ k / 12 < n
  · rw [if_pos h, if_pos h]
  · rw [if_neg h, if_neg h, if_neg h]
theorem stS_le (s : Nat) : stS s ≤ 1000000 := by
  unfold stS
  split <;> omega
theorem stR_le {s r : Nat} (h : r ≤ 3) : stR s r ≤ 3 := by
  unfold stR
  split <;> omega
theorem npS_le (D : Nat → Nat → Nat → Nat) (di ga : Nat → Nat) (c l d x : Nat) : npS D di ga c l d x ≤ 1000000 := by
  unfold npS
  split
  · exact stS_le _
  · split
    · exact stS_le _
    · exact Nat.le_refl _
theorem npR_le (D : Nat → Nat → Nat → Nat) (di ga : Nat → Nat) (c l d x : Nat) : npR D di ga c l d x ≤ 3 := by
  unfold npR
  split
  · exact stR_le (by decide)
  · split
    · exact stR_le (by decide)
    · decide
theorem fpS_le (D : Nat → Nat → Nat → Nat) (di ga : Nat → Nat) (c l d x : Nat) : fpS D di ga c l d x ≤ 1000000 := by
  unfold fpS
  split
  · exact stS_le _
  · exact npS_le _ _ _ _ _ _ _
theorem fpR_le (D : Nat → Nat → Nat → Nat) (di ga : Nat → Nat) (c l d x : Nat) : fpR D di ga c l d x ≤ 3 := by
  unfold fpR
  split
  · exact stR_le (by decide)
  · exact npR_le _ _ _ _ _ _ _
theorem tS_le (D : Nat → Nat → Nat → Nat) (di ga : Nat → Nat) (c l d x : Nat) : tS D di ga c l d x ≤ 1000000 := by
  unfold tS
  split
  · exact fpS_le _ _ _ _ _ _ _
  · exact Nat.le_refl _
theorem tR_le (D : Nat → Nat → Nat → Nat) (di ga : Nat → Nat) (c l d x : Nat) : tR D di ga c l d x ≤ 3 := by
  unfold tR
  split
  · exact fpR_le _ _ _ _ _ _ _
  · decide
theorem lBG_N {D : Nat → Nat → Nat → Nat} {di ga su N : Nat → Nat} {x al : Nat} : ∀ {d : Nat}, d ≤ 3 → (∀ e k, 1 ≤ e → e < 4 → k < 14 → bitB (ga e) k = true → su (k * 12 + al) = N k) → lBG D di ga su x al d = lBN D di ga N x d
  | 0, _, _ => rfl
  | d + 1, hd, h => by
    unfold lBG lBN
    rw [lBG_N (by omega) h]
    rw [minA_congr (q := fun k => bitB (ga (d + 1)) k) (w := fun k => D (d + 1) x k + N k) (fun _ _ => rfl) (fun k hk hb => by rw [h (d + 1) k (by omega) (by omega) hk hb])]
-- ways by lanes
def dstF (g : Nat → Nat) (p : Nat → Bool) (e : Nat → Nat → Nat) : Nat → (Nat → Nat → Nat)
  | 0 => e
  | i + 1 => if p i then jnN (dstF g p e i) (lnC g i 0) (lnC g i 1) (lnC g i 2) else dstF g p e i
def pL (g : Nat → Nat) (d i : Nat) : Bool := told g i && (d == 4 || lnC g i 3 == d)
def dst (g : Nat → Nat) (d : Nat) : Nat → Nat → Nat := dstF g (pL g d) (clV d) (kL g)
theorem jnN_c (e : Nat → Nat → Nat) (a b l x y : Nat) : jnN e a b l x y ≤ dz e a b x y ∧ jnN e a b l x y ≤ dz e a b x a + l + dz e a b b y ∧ jnN e a b l x y ≤ dz e a b x b + l + dz e a b a y ∧ (jnN e a b l x y = dz e a b x y ∨ jnN e a b l x y = dz e a b x a + l + dz e a b b y ∨ jnN e a b l x y = dz e a b x b + l + dz e a b a y) := by
  unfold jnN
  refine ⟨Nat.min_le_left _ _, Nat.le_trans (Nat.min_le_right _ _) (Nat.min_le_left _ _), Nat.le_trans (Nat.min_le_right _ _) (Nat.min_le_right _ _), ?_⟩
  rcases Nat.le_total (dz e a b x y) (min (dz e a b x a + l + dz e a b b y) (dz e a b x b + l + dz e a b a y)) with h | h
  · exact Or.inl (Nat.min_eq_left h)
  · rw [Nat.min_eq_right h]
    rcases Nat.le_total (dz e a b x a + l + dz e a b b y) (dz e a b x b + l + dz e a b a y) with h2 | h2
    · exact Or.inr (Or.inl (Nat.min_eq_left h2))
    · exact Or.inr (Or.inr (Nat.min_eq_right h2))
theorem jnN_sym {e : Nat → Nat → Nat} {a b l x y : Nat} (h : MD e) (ha : a < 14) (hb : b < 14) (hx : x < 14) (hy : y < 14) : jnN e a b l x y = jnN e a b l y x := by
  have h' := dz_MD h a b
  have s1 := (h' x y x hx hy hx).2.1
  have s2 := (h' a x x ha hx hx).2.1
  have s3 := (h' b x x hb hx hx).2.1
  have s4 := (h' a y x ha hy hx).2.1
  have s5 := (h' b y x hb hy hx).2.1
  obtain ⟨p1, p2, p3, p4⟩ := jnN_c e a b l x y
  obtain ⟨q1, q2, q3, q4⟩ := jnN_c e a b l y x
  generalize jnN e a b l x y = u at *
  generalize jnN e a b l y x = v at *
  generalize dz e a b x y = t1 at *
  generalize dz e a b y x = t2 at *
  generalize dz e a b x a = t3 at *
  generalize dz e a b a x = t4 at *
  generalize dz e a b x b = t5 at *
  generalize dz e a b b x = t6 at *
  generalize dz e a b y a = t7 at *
  generalize dz e a b a y = t8 at *
  generalize dz e a b y b = t9 at *
  generalize dz e a b b y = t10 at *
  clear h h'
  rcases p4 with p4 | p4 | p4 <;> rcases q4 with q4 | q4 | q4 <;> omega
theorem jnN_tri {e : Nat → Nat → Nat} {a b l x y z : Nat} (h : MD e) (ha : a < 14) (hb : b < 14) (hx : x < 14) (hy : y < 14) (hz : z < 14) : jnN e a b l x y ≤ jnN e a b l x z + jnN e a b l z y := by
  have h' := dz_MD h a b
  have r1 := (h' x y z hx hy hz).2.2
  have r2 := (h' x a z hx ha hz).2.2
  have r3 := (h' x b z hx hb hz).2.2
  have r4 := (h' b y z hb hy hz).2.2
  have r5 := (h' a y z ha hy hz).2.2
  have r6 := (h' x y a hx hy ha).2.2
  have r7 := (h' x y b hx hy hb).2.2
  obtain ⟨p1, p2, p3, -⟩ := jnN_c e a b l x y
  obtain ⟨-, -, -, q4⟩ := jnN_c e a b l x z
  obtain ⟨-, -, -, w4⟩ := jnN_c e a b l z y
  generalize jnN e a b l x y = u at *
  generalize jnN e a b l x z = v at *
  generalize jnN e a b l z y = w at *
  generalize dz e a b x y = t1 at *
  generalize dz e a b x z = t2 at *
  generalize dz e a b z y = t3 at *
  generalize dz e a b x a = t4 at *
  generalize dz e a b x b = t5 at *
  generalize dz e a b z a = t6 at *
  generalize dz e a b z b = t7 at *
  generalize dz e a b b y = t8 at *
  generalize dz e a b a y = t9 at *
  generalize dz e a b b z = t10 at *
  generalize dz e a b a z = t11 at *
  clear h h'
  rcases q4 with q4 | q4 | q4 <;> rcases w4 with w4 | w4 | w4 <;> omega
theorem jnN_MD {e : Nat → Nat → Nat} {a b l : Nat} (h : MD e) (ha : a < 14) (hb : b < 14) : MD (jnN e a b l) := by
  intro x y z hx hy hz
  exact ⟨Nat.le_trans (jnN_c e a b l x y).1 (dz_MD h a b x y x hx hy hx).1, jnN_sym h ha hb hx hy, jnN_tri h ha hb hx hy hz⟩
theorem jnN_le {e : Nat → Nat → Nat} {a b l x y : Nat} (h : e x y ≤ 1000000) : jnN e a b l x y ≤ 1000000 := by
  have h2 : dz e a b x y ≤ 1000000 := by
    unfold dz
    split <;> omega
  unfold jnN
  omega
theorem clV_MD (d : Nat) : MD (clV d) := by
  intro x y z hx hy hz
  unfold clV
  by_cases h : d = 4
  · subst h
    simp only [true_and]
    refine ⟨by split <;> omega, ?_, ?_⟩
    · by_cases hxy : x = y
      · rw [if_pos hxy, if_pos hxy.symm]
      · rw [if_neg hxy, if_neg (fun q => hxy q.symm)]
    · by_cases hxz : x = z
      · subst hxz
        rw [if_pos rfl]
        omega
      · rw [if_neg hxz]
        split <;> split <;> omega
  · simp [h]
theorem dstF_MD {g : Nat → Nat} (hv : Vg g) {p : Nat → Bool} {e : Nat → Nat → Nat} (h : MD e) : ∀ {i : Nat}, i ≤ kL g → MD (dstF g p e i)
  | 0, _ => h
  | i + 1, hi => by
    have ih := dstF_MD hv (p := p) h (i := i) (by omega)
    have hl := hv.2.2.2.1 i (by omega)
    unfold dstF
    split
    · exact jnN_MD ih hl.1 hl.2.1
    · exact ih
def DDI (g : Nat → Nat) (D : Nat → Nat → Nat → Nat) (i : Nat) : Nat → Nat → Nat → Nat := fun d => if d < 5 then dstF g (pL g d) (clV d) i else D d
def dstD (g : Nat → Nat) (D : Nat → Nat → Nat → Nat) : Nat → Nat → Nat → Nat := DDI g D (kL g)
def clI5 (D : Nat → Nat → Nat → Nat) (k : Nat) : Nat → Nat → Nat → Nat := fun d => if d < k then clV d else D d
theorem clI5_s {D : Nat → Nat → Nat → Nat} {k : Nat} : clD (clI5 D k) k = clI5 D (k + 1) := by
  funext d x y
  unfold clD clI5
  by_cases h : d = k
  · subst h
    rw [if_pos rfl, if_pos (by omega)]
  · rw [if_neg h]
    by_cases h2 : d < k
    · rw [if_pos h2, if_pos (by omega)]
    · rw [if_neg h2, if_neg (by omega)]
theorem clI5_5 {g : Nat → Nat} {D : Nat → Nat → Nat → Nat} : clI5 D 5 = DDI g D 0 := rfl
theorem DDI_f {g : Nat → Nat} {D : Nat → Nat → Nat → Nat} {i : Nat} (h : told g i = false) : DDI g D i = DDI g D (i + 1) := by
  funext d
  unfold DDI
  split
  · show _ = if pL g d i then _ else _
    unfold pL
    rw [h, Bool.false_and]
    rfl
  · rfl
theorem DDI_t {g : Nat → Nat} (hv : Vg g) {D : Nat → Nat → Nat → Nat} {i : Nat} (hi : i < kL g) (h : told g i = true) : jD (jD (DDI g D i) (lnC g i 3) (lnC g i 0) (lnC g i 1) (lnC g i 2)) 4 (lnC g i 0) (lnC g i 1) (lnC g i 2) = DDI g D (i + 1) := by
  have hl := hv.2.2.2.1 i hi
  funext d x y
  unfold jD
  by_cases h4 : d = 4
  · subst h4
    rw [if_pos rfl]
    unfold DDI
    rw [if_pos (show (4 : Nat) < 5 by decide)]
    show _ = (if pL g 4 i then jnN (dstF g (pL g 4) (clV 4) i) (lnC g i 0) (lnC g i 1) (lnC g i 2) else dstF g (pL g 4) (clV 4) i) x y
    have e0 : pL g 4 i = true := by unfold pL; rw [h]; rfl
    rw [e0, if_pos rfl]
    have e1 : (fun x y => if (4 : Nat) = lnC g i 3 then jnN ((fun d => if d < 5 then dstF g (pL g d) (clV d) i else D d) (lnC g i 3)) (lnC g i 0) (lnC g i 1) (lnC g i 2) x y else (fun d => if d < 5 then dstF g (pL g d) (clV d) i else D d) 4 x y) = dstF g (pL g 4) (clV 4) i := by
      funext x y
      rw [if_neg (by omega)]
      rfl
    exact congrFun (congrFun (congrArg (fun q => jnN q (lnC g i 0) (lnC g i 1) (lnC g i 2)) e1) x) y
  · rw [if_neg h4]
    unfold DDI
    by_cases h5 : d < 5
    · rw [if_pos h5, if_pos h5]
      show _ = (if pL g d i then jnN (dstF g (pL g d) (clV d) i) (lnC g i 0) (lnC g i 1) (lnC g i 2) else dstF g (pL g d) (clV d) i) x y
      by_cases hd : d = lnC g i 3
      · have e0 : pL g d i = true := by unfold pL; rw [h, hd]; simp
        rw [if_pos hd, e0, if_pos rfl, ← hd, if_pos h5]
      · have e0 : pL g d i = false := by
          unfold pL
          rw [h, Bool.true_and, Bool.or_eq_false_iff]
          exact ⟨by simpa using h4, by simpa using fun q => hd q.symm⟩
        rw [if_neg hd, e0]
        rfl
    · rw [if_neg h5, if_neg h5, if_neg (by omega)]
theorem DDI_ly {g : Nat → Nat} {D : Nat → Nat → Nat → Nat} {i d : Nat} (h : d < 5) : DDI g D i d = dstF g (pL g d) (clV d) i := if_pos h
theorem DDI_WB {g : Nat → Nat} (hv : Vg g) {D : Nat → Nat → Nat → Nat} {i : Nat} (hi : i ≤ kL g) : WB (DDI g D i) := by
  intro d x y hd hx hy
  rw [DDI_ly hd]
  exact (dstF_MD hv (clV_MD d) hi x y x hx hy hx).1
-- one lane left out
def pW (g : Nat → Nat) (d lo i : Nat) : Bool := !(decide (i = lo)) && (decide (lnC g i 3 = d) && told g i)
def WOI (g : Nat → Nat) (D : Nat → Nat → Nat → Nat) (ly lo i : Nat) : Nat → Nat → Nat → Nat := fun d => if d = ly then dstF g (pW g ly lo) (clV ly) i else D d
theorem WOI_0 {g : Nat → Nat} {D : Nat → Nat → Nat → Nat} {ly lo : Nat} : clD D ly = WOI g D ly lo 0 := by
  funext d x y
  unfold clD WOI
  by_cases h : d = ly
  · subst h
    rw [if_pos rfl, if_pos rfl]
    rfl
  · rw [if_neg h, if_neg h]
theorem WOI_f {g : Nat → Nat} {D : Nat → Nat → Nat → Nat} {ly lo i : Nat} (h : pW g ly lo i = false) : WOI g D ly lo i = WOI g D ly lo (i + 1) := by
  funext d
  unfold WOI
  split
  · show _ = if pW g ly lo i then _ else _
    rw [h]
    rfl
  · rfl
theorem WOI_t {g : Nat → Nat} {D : Nat → Nat → Nat → Nat} {ly lo i : Nat} (h : pW g ly lo i = true) : jD (WOI g D ly lo i) ly (lnC g i 0) (lnC g i 1) (lnC g i 2) = WOI g D ly lo (i + 1) := by
  funext d x y
  unfold jD WOI
  by_cases hd : d = ly
  · rw [if_pos hd, if_pos hd, if_pos rfl]
    show _ = (if pW g ly lo i then jnN (dstF g (pW g ly lo) (clV ly) i) (lnC g i 0) (lnC g i 1) (lnC g i 2) else dstF g (pW g ly lo) (clV ly) i) x y
    rw [h, if_pos rfl]
  · rw [if_neg hd, if_neg hd, if_neg hd]
theorem WOI_MD {g : Nat → Nat} (hv : Vg g) {D : Nat → Nat → Nat → Nat} {ly lo i : Nat} (hi : i ≤ kL g) : MD (WOI g D ly lo i ly) := by
  unfold WOI
  rw [if_pos rfl]
  exact dstF_MD hv (clV_MD ly) hi
theorem WOI_WB {g : Nat → Nat} (hv : Vg g) {D : Nat → Nat → Nat → Nat} (hB : WB D) {ly lo i : Nat} (hi : i ≤ kL g) : WB (WOI g D ly lo i) := by
  intro d x y hd hx hy
  unfold WOI
  split
  · exact (dstF_MD hv (clV_MD ly) hi x y x hx hy hx).1
  · exact hB d x y hd hx hy

