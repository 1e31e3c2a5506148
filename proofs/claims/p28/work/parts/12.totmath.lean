/-! TOTALS AS NUMBERS -/
def nF (f : Nat → Nat) : Nat → Int32 := fun k => nI (f k)
def totB (G : GG) (a : Nat → Nat) (D : Nat → Nat → Nat → Nat) (di ga su ru : Nat → Nat) (n : Nat) : List va_W := [[(a 0, .inr (4, [.ref (a 1), .ref (a 3), .ref (a 5), .ref (a 7), .ref (a 9), .int (nI n)]))], ways G (a 1) (a 2) D, tbl G (a 3) (a 4) 14 (nI 1) (nF di) 0, tbl G (a 5) (a 6) 4 (nI 1) (nF ga) 0, tbl G (a 7) (a 8) 168 (nI 12) (nF su) 0, tbl G (a 9) (a 10) 168 (nI 12) (nF ru) 0]
def tot (G : GG) (a : Nat → Nat) (D : Nat → Nat → Nat → Nat) (di ga su ru : Nat → Nat) (n : Nat) : va_W := (totB G a D di ga su ru n).flatten
def bitB (s k : Nat) : Bool := s / 2 ^ k % 2 == 1
def bitS (p : Nat → Bool) : Nat → Nat
  | 0 => 0
  | n + 1 => bitS p n + (if p n then 2 ^ n else 0)
theorem bitS_lt (p : Nat → Bool) : ∀ n, bitS p n < 2 ^ n
  | 0 => by simp [bitS]
  | n + 1 => by
    have := bitS_lt p n
    unfold bitS
    rw [Nat.pow_succ]
    split <;> omega
theorem bitS_congr {p q : Nat → Bool} : ∀ {n : Nat}, (∀ i, i < n → p i = q i) → bitS p n = bitS q n
  | 0, _ => rfl
  | n + 1, h => by
    unfold bitS
    rw [bitS_congr (fun i hi => h i (by omega)), h n (by omega)]
theorem bit_hi {a n k : Nat} (ha : a < 2 ^ n) (hk : n ≤ k) : a / 2 ^ k % 2 = 0 := by
  rw [Nat.div_eq_of_lt (Nat.lt_of_lt_of_le ha (Nat.pow_le_pow_right (by decide) hk))]
theorem bit_add {a n k : Nat} (hk : k < n) : (a + 2 ^ n) / 2 ^ k % 2 = a / 2 ^ k % 2 := by
  obtain ⟨d, rfl⟩ : ∃ d, n = k + 1 + d := ⟨n - k - 1, by omega⟩
  rw [show a + 2 ^ (k + 1 + d) = a + 2 ^ k * (2 * 2 ^ d) by rw [Nat.pow_add, Nat.pow_succ, Nat.mul_assoc], Nat.add_mul_div_left _ _ (Nat.two_pow_pos k)]
  omega
theorem bitB_S (p : Nat → Bool) : ∀ (n k : Nat), bitB (bitS p n) k = (decide (k < n) && p k)
  | 0, k => by simp [bitB, bitS]
  | n + 1, k => by
    have ih := bitB_S p n k
    have hlt := bitS_lt p n
    unfold bitB at ih ⊢
    unfold bitS
    by_cases hk : k < n
    · have e : (bitS p n + if p n then 2 ^ n else 0) / 2 ^ k % 2 = bitS p n / 2 ^ k % 2 := by
        split
        · exact bit_add hk
        · rw [Nat.add_zero]
      rw [e, ih]
      simp [hk, show k < n + 1 by omega]
    · by_cases hk2 : k = n
      · subst hk2
        cases hp : p k with
        | true =>
          rw [if_pos rfl, Nat.add_div_right _ (Nat.two_pow_pos k), Nat.div_eq_of_lt hlt]
          simp
        | false =>
          simp [Nat.div_eq_of_lt hlt]
      · have e : (bitS p n + if p n then 2 ^ n else 0) < 2 ^ (n + 1) := by
          rw [Nat.pow_succ]
          split <;> omega
        rw [bit_hi e (by omega)]
        simp [show ¬ k < n + 1 by omega]
theorem sh_31 : ∀ j : Fin 31, (1 : Int32) <<< (nI j.val &&& 31) = nI (2 ^ j.val) ∧ ((nI j.val &&& 31).toBitVec.smod 32).toNat = j.val := by decide +kernel
theorem nI_shl {j : Nat} (h : j < 31) : (1 : Int32) <<< (nI j &&& 31) = nI (2 ^ j) := (sh_31 ⟨j, h⟩).1
theorem nI_bit {s j : Nat} (hs : s < 2 ^ 31) (h : j < 31) : nI s >>> (nI j &&& 31) &&& 1 = nI (s / 2 ^ j % 2) := by
  rw [pk_shrN hs _ j (sh_31 ⟨j, h⟩).2, pk_andN (Nat.lt_of_le_of_lt (Nat.div_le_self _ _) (by omega)) 1 (by decide)]
theorem nI_or (a b : Nat) : nI a ||| nI b = nI (a ||| b) := by
  apply Int32.toBitVec.inj
  rw [Int32.toBitVec_or]
  show BitVec.ofNat 32 a ||| BitVec.ofNat 32 b = BitVec.ofNat 32 (a ||| b)
  apply BitVec.eq_of_getLsbD_eq
  intro i hi
  simp [BitVec.getLsbD_or, BitVec.getLsbD_ofNat, hi]
theorem or_2 {a n : Nat} (h : a < 2 ^ n) : a ||| 2 ^ n = a + 2 ^ n := by
  have := Nat.two_pow_add_eq_or_of_lt h 1
  rw [Nat.mul_one] at this
  rw [Nat.or_comm, ← this, Nat.add_comm]
theorem nI_setb {a j : Nat} (ha : a < 2 ^ j) (h : j < 31) : nI a ||| (1 : Int32) <<< (nI j &&& 31) = nI (a + 2 ^ j) := by
  rw [nI_shl h, nI_or, or_2 ha]
theorem bitB_d {s j : Nat} (hs : s < 2 ^ 31) (h : j < 31) : bI (!(decide (nI s >>> (nI j &&& 31) &&& 1 = 0))) = bI (bitB s j) := by
  rw [nI_bit hs h]
  unfold bitB
  have h2 : s / 2 ^ j % 2 = 0 ∨ s / 2 ^ j % 2 = 1 := by omega
  rcases h2 with h2 | h2 <;> rw [h2] <;> decide
theorem bitB_0 {s j : Nat} (hs : s < 2 ^ 31) (h : j < 31) : nI s >>> (nI j &&& 31) &&& 1 = 0 ↔ bitB s j = false := by
  rw [nI_bit hs h]
  unfold bitB
  have h2 : s / 2 ^ j % 2 = 0 ∨ s / 2 ^ j % 2 = 1 := by omega
  rcases h2 with h2 | h2 <;> rw [h2] <;> decide
/-- least and any -/
def minA (acc : Nat) (p : Nat → Bool) (v : Nat → Nat) : Nat → Nat
  | 0 => acc
  | k + 1 => if p k then min (minA acc p v k) (v k) else minA acc p v k
def anyB (p : Nat → Bool) : Nat → Bool
  | 0 => false
  | k + 1 => anyB p k || p k
def sumB (p : Nat → Bool) (v : Nat → Nat) : Nat → Nat
  | 0 => 0
  | k + 1 => sumB p v k + (if p k then v k else 0)
theorem minA_t {acc : Nat} {p : Nat → Bool} {v : Nat → Nat} {n : Nat} (h : p n = true) : minA acc p v (n + 1) = min (minA acc p v n) (v n) := by
  show (if p n then min (minA acc p v n) (v n) else minA acc p v n) = _
  rw [if_pos h]
theorem minA_f {acc : Nat} {p : Nat → Bool} {v : Nat → Nat} {n : Nat} (h : p n = false) : minA acc p v (n + 1) = minA acc p v n := by
  show (if p n then min (minA acc p v n) (v n) else minA acc p v n) = _
  rw [h]; rfl
theorem anyB_f {p : Nat → Bool} {n : Nat} (h : anyB p n = false) (h2 : p n = false) : anyB p (n + 1) = false := by
  show (anyB p n || p n) = false
  rw [h, h2]; rfl
theorem minA_le (acc : Nat) (p : Nat → Bool) (v : Nat → Nat) : ∀ n, minA acc p v n ≤ acc
  | 0 => Nat.le_refl _
  | n + 1 => by
    have := minA_le acc p v n
    unfold minA
    split <;> omega
theorem minA_congr {acc : Nat} {p q : Nat → Bool} {v w : Nat → Nat} : ∀ {n : Nat}, (∀ i, i < n → p i = q i) → (∀ i, i < n → p i = true → v i = w i) → minA acc p v n = minA acc q w n
  | 0, _, _ => rfl
  | n + 1, h, h2 => by
    unfold minA
    rw [minA_congr (fun i hi => h i (by omega)) (fun i hi => h2 i (by omega)), ← h n (by omega)]
    split
    · rw [h2 n (by omega) (by assumption)]
    · rfl
theorem anyB_congr {p q : Nat → Bool} : ∀ {n : Nat}, (∀ i, i < n → p i = q i) → anyB p n = anyB q n
  | 0, _ => rfl
  | n + 1, h => by
    unfold anyB
    rw [anyB_congr (fun i hi => h i (by omega)), h n (by omega)]
theorem anyB_iff {p : Nat → Bool} : ∀ {n : Nat}, anyB p n = true ↔ ∃ i, i < n ∧ p i = true
  | 0 => by simp [anyB]
  | n + 1 => by
    unfold anyB
    rw [Bool.or_eq_true, anyB_iff]
    constructor
    · rintro (⟨i, h1, h2⟩ | h)
      · exact ⟨i, by omega, h2⟩
      · exact ⟨n, by omega, h⟩
    · rintro ⟨i, h1, h2⟩
      by_cases hi : i = n
      · subst hi; exact Or.inr h2
      · exact Or.inl ⟨i, by omega, h2⟩
theorem sumB_t {p : Nat → Bool} {v : Nat → Nat} {n : Nat} (h : p n = true) : sumB p v (n + 1) = sumB p v n + v n := by
  show sumB p v n + (if p n then v n else 0) = _
  rw [if_pos h]
theorem sumB_f {p : Nat → Bool} {v : Nat → Nat} {n : Nat} (h : p n = false) : sumB p v (n + 1) = sumB p v n := by
  show sumB p v n + (if p n then v n else 0) = _
  rw [h]; rfl
theorem sumB_le (p : Nat → Bool) (v : Nat → Nat) (M : Nat) (h : ∀ k, v k ≤ M) : ∀ n, sumB p v n ≤ n * M
  | 0 => by simp [sumB]
  | n + 1 => by
    have h1 := sumB_le p v M h n
    have h2 := h n
    unfold sumB
    rw [Nat.add_mul]
    split <;> omega
theorem sumB_congr {p q : Nat → Bool} {v w : Nat → Nat} : ∀ {n : Nat}, (∀ i, i < n → p i = q i) → (∀ i, i < n → v i = w i) → sumB p v n = sumB q w n
  | 0, _, _ => rfl
  | n + 1, h, h2 => by
    unfold sumB
    rw [sumB_congr (fun i hi => h i (by omega)) (fun i hi => h2 i (by omega)), h n (by omega), h2 n (by omega)]
/-- what the totals' rows keep to -/
def TBd (D : Nat → Nat → Nat → Nat) (di ga su ru : Nat → Nat) : Prop := WB D ∧ (∀ x, x < 14 → di x < 16) ∧ (∀ d, d < 4 → ga d < 16384) ∧ (∀ k, k < 168 → su k ≤ 1000000) ∧ ∀ k, k < 168 → ru k ≤ 3
def lOn (D : Nat → Nat → Nat → Nat) (d x nx len e : Nat) : Bool := decide (D d x e < 1000000) && decide (len + D d nx e = D d x e)
def lOB (D : Nat → Nat → Nat → Nat) (ga : Nat → Nat) (x d e : Nat) : Nat := minA 1000000 (fun k => bitB (ga d) k) (fun k => D 0 x k + D d k e) 14
def lBG (D : Nat → Nat → Nat → Nat) (di ga su : Nat → Nat) (x al : Nat) : Nat → Nat
  | 0 => 1000000
  | d + 1 => if bitB (di x) (d + 1) then minA (lBG D di ga su x al d) (fun k => bitB (ga (d + 1)) k) (fun k => D (d + 1) x k + su (k * 12 + al)) 14 else lBG D di ga su x al d
def lVB (D : Nat → Nat → Nat → Nat) (ga su : Nat → Nat) (x nx len al c l d : Nat) : Bool := anyB (fun k => bitB (ga d) k && (lOn D 0 x nx len k && decide (D 0 x k + D d k c + l = su (x * 12 + al)))) 14
def lOut (D : Nat → Nat → Nat → Nat) (ga su : Nat → Nat) (d x nx len al : Nat) : Bool := anyB (fun k => bitB (ga d) k && (lOn D d x nx len k && decide (D d x k + su (k * 12 + al) = su (x * 12 + al)))) 14
def stpR (D : Nat → Nat → Nat → Nat) (ga su ru : Nat → Nat) (g : Nat → Nat) (i x nx al : Nat) : Bool :=
  if ru (x * 12 + al) = 1 then decide (lnC g i 3 = alC g al 2) && lOn D (lnC g i 3) x nx (lnC g i 2) (alC g al 0)
  else if ru (x * 12 + al) = 2 then decide (lnC g i 3 = 0) && lVB D ga su x nx (lnC g i 2) al (alC g al 0) (alC g al 1) (alC g al 2)
  else if ru (x * 12 + al) = 3 then !(decide (lnC g i 3 = 0)) && lOut D ga su (lnC g i 3) x nx (lnC g i 2) al
  else false
def stp (D : Nat → Nat → Nat → Nat) (ga su ru : Nat → Nat) (g : Nat → Nat) (i x al : Nat) : Bool := match oeN g i x with
  | none => false
  | some nx => told g i && stpR D ga su ru g i x nx al
def gdN (di : Nat → Nat) (x : Nat) : Nat := if bitB (di x) 0 then di x - 1 else 0
theorem stp_n {D : Nat → Nat → Nat → Nat} {ga su ru g : Nat → Nat} {i x al : Nat} (h : oeN g i x = none) : stp D ga su ru g i x al = false := by
  unfold stp
  rw [h]
theorem stp_s {D : Nat → Nat → Nat → Nat} {ga su ru g : Nat → Nat} {i x al nx : Nat} (h : oeN g i x = some nx) : stp D ga su ru g i x al = (told g i && stpR D ga su ru g i x nx al) := by
  unfold stp
  rw [h]
theorem oeN_s {g : Nat → Nat} (hv : Vg g) {i x nx : Nat} (h : oeN g i x = some nx) : i < kL g ∧ nx < 14 := by
  unfold oeN at h
  split at h
  · rename_i hi
    have := hv.2.2.2.1 i hi
    split at h
    · cases h; exact ⟨hi, this.2.1⟩
    · split at h
      · cases h; exact ⟨hi, this.1⟩
      · cases h
  · cases h
theorem lBG_le (D : Nat → Nat → Nat → Nat) (di ga su : Nat → Nat) (x al : Nat) : ∀ d, lBG D di ga su x al d ≤ 1000000
  | 0 => Nat.le_refl _
  | d + 1 => by
    have := lBG_le D di ga su x al d
    unfold lBG
    split
    · exact Nat.le_trans (minA_le _ _ _ _) this
    · exact this
theorem tAt_s {f : Nat → Nat} {x al : Nat} (hx : x < 14) (ha : al < 12) : tAt 168 (nI 12) (nF f) (nI x) (nI al) = nI (f (x * 12 + al)) := tAt_n (by omega) (by decide)
theorem tAt_1 {n : Nat} {f : Nat → Nat} {x : Nat} (hx : x < n) (hn : n < 2 ^ 31) : tAt n (nI 1) (nF f) (nI x) 0 = nI (f x) := by
  have := tAt_n (n := n) (cn := 1) (i := x) (j := 0) (f := nF f) (by omega) hn
  rw [show x * 1 + 0 = x by omega] at this
  exact this
theorem nI_sube {a b c : Nat} (ha : a < 2 ^ 30) (hb : b < 2 ^ 30) (hc : c < 2 ^ 30) : nI a = nI b - nI c ↔ a + c = b := by
  constructor
  · intro h
    have h1 : nI (a + c) = nI b := by rw [← nI_add, h]; exact Int32.sub_add_cancel _ _
    exact (nI_eq (by omega) (by omega)).mp h1
  · intro h
    subst h
    rw [← nI_add]
    exact (Int32.add_sub_cancel _ _).symm

