/-! THE STATE AS NUMBERS: g holds ranks (0..13), the number of lanes (14), lanes (15..), the number of alleys (140), alleys (141..) -/
abbrev PC : Type := (Nat → Int32) × (Nat → Int32) × Int32 × (Nat → Int32) × Int32
def kL (g : Nat → Nat) : Nat := g 14
def kA (g : Nat → Nat) : Nat := g 140
def lnC (g : Nat → Nat) (i c : Nat) : Nat := g (15 + (i * 5 + c))
def alC (g : Nat → Nat) (i c : Nat) : Nat := g (141 + (i * 3 + c))
def Vg (g : Nat → Nat) : Prop := kL g ≤ 24 ∧ kA g ≤ 12 ∧ (∀ x, x < 14 → g x ≤ 9) ∧ (∀ i, i < kL g → lnC g i 0 < 14 ∧ lnC g i 1 < 14 ∧ lnC g i 0 ≠ lnC g i 1 ∧ 1 ≤ lnC g i 2 ∧ lnC g i 2 ≤ 20 ∧ lnC g i 3 < 4 ∧ lnC g i 4 ≤ 1) ∧ ∀ i, i < kA g → alC g i 0 < 14 ∧ alC g i 1 ≤ 20 ∧ alC g i 2 < 4
def PR (g : Nat → Nat) (P : PC) : Prop := (∀ x, x < 14 → P.1 x = nI (g x)) ∧ (∀ i c, i < kL g → c < 5 → P.2.1 (i * 5 + c) = nI (lnC g i c)) ∧ P.2.2.1 = nI (kL g) ∧ (∀ i c, i < kA g → c < 3 → P.2.2.2.1 (i * 3 + c) = nI (alC g i c)) ∧ P.2.2.2.2 = nI (kA g)
def planB (G : GG) (a : Nat → Nat) (P : PC) : List va_W := [[(a 0, .inr (1, [.ref (a 1), .ref (a 3), .ref (a 5)]))], tbl G (a 1) (a 2) 14 (nI 1) P.1 0, tbl G (a 3) (a 4) 120 (nI 5) P.2.1 P.2.2.1, tbl G (a 5) (a 6) 36 (nI 3) P.2.2.2.1 P.2.2.2.2]
def plan (G : GG) (a : Nat → Nat) (P : PC) : va_W := (planB G a P).flatten
-- clerks, lanes that are told
def hasB (g : Nat → Nat) (x y : Nat) : Bool := !(g x == 0 && g y == 0)
def ckB (g : Nat → Nat) (x y : Nat) : Nat := if g x = g y then max x y else if g y < g x then x else y
def hasCk (g : Nat → Nat) (i : Nat) : Bool := hasB g (lnC g i 0) (lnC g i 1)
def ck (g : Nat → Nat) (i : Nat) : Nat := ckB g (lnC g i 0) (lnC g i 1)
def told (g : Nat → Nat) (i : Nat) : Bool := lnC g i 4 == 0 && hasCk g i
def cntB (p : Nat → Bool) : Nat → Nat
  | 0 => 0
  | n + 1 => cntB p n + (if p n then 1 else 0)
def optI : Option Nat → Int32
  | none => -5
  | some i => nI i
def oeN (g : Nat → Nat) (i y : Nat) : Option Nat := if i < kL g then (if lnC g i 0 = y then some (lnC g i 1) else if lnC g i 1 = y then some (lnC g i 0) else none) else none
theorem cntB_le (p : Nat → Bool) : ∀ n, cntB p n ≤ n
  | 0 => Nat.le_refl 0
  | n + 1 => by
    have := cntB_le p n
    unfold cntB
    split <;> omega
theorem cntB_congr {p q : Nat → Bool} : ∀ {n : Nat}, (∀ i, i < n → p i = q i) → cntB p n = cntB q n
  | 0, _ => rfl
  | n + 1, h => by
    unfold cntB
    rw [cntB_congr (fun i hi => h i (by omega)), h n (by omega)]
theorem ckB_lt {g : Nat → Nat} {x y : Nat} (hx : x < 14) (hy : y < 14) : ckB g x y < 14 := by
  unfold ckB
  split
  · omega
  · split <;> omega
theorem nI_z {a : Nat} (h : a < 2 ^ 31) : nI a = 0 ↔ a = 0 := by
  rw [← nI_0]
  exact nI_eq h (by omega)
theorem nI_ne5 {a : Nat} (h : a < 2 ^ 31) : ¬ nI a = -5 := fun e => nI_pos h (by rw [e]; decide)
theorem optI_5 {o : Option Nat} (h : ∀ i, o = some i → i < 2 ^ 31) : optI o = -5 ↔ o = none := by
  cases o with
  | none => exact ⟨fun _ => rfl, fun _ => rfl⟩
  | some i => exact ⟨fun e => absurd e (nI_ne5 (h i rfl)), fun e => by cases e⟩
theorem P_rank {g : Nat → Nat} {P : PC} (h : PR g P) {x : Nat} (hx : x < 14) : tAt 14 (nI 1) P.1 (nI x) 0 = nI (g x) := by
  have := tAt_n (n := 14) (cn := 1) (i := x) (j := 0) (f := P.1) (by omega) (by decide)
  rw [show x * 1 + 0 = x by omega] at this
  exact this.trans (h.1 x hx)
theorem P_lane {g : Nat → Nat} {P : PC} (h : PR g P) (hv : Vg g) {i c : Nat} (hi : i < kL g) (hc : c < 5) : tAt 120 (nI 5) P.2.1 (nI i) (nI c) = nI (lnC g i c) := by
  have h1 := hv.1
  rw [tAt_n (by omega) (by decide)]
  exact h.2.1 i c hi hc
theorem P_alley {g : Nat → Nat} {P : PC} (h : PR g P) (hv : Vg g) {i c : Nat} (hi : i < kA g) (hc : c < 3) : tAt 36 (nI 3) P.2.2.2.1 (nI i) (nI c) = nI (alC g i c) := by
  have h1 := hv.2.1
  rw [tAt_n (by omega) (by decide)]
  exact h.2.2.2.1 i c hi hc
theorem V_cell {g : Nat → Nat} (hv : Vg g) {i c : Nat} (hi : i < kL g) (hc : c < 5) : lnC g i c < 100 := by
  have h := hv.2.2.2.1 i hi
  match c, hc with
  | 0, _ => omega
  | 1, _ => omega
  | 2, _ => omega
  | 3, _ => omega
  | 4, _ => omega
theorem V_acell {g : Nat → Nat} (hv : Vg g) {i c : Nat} (hi : i < kA g) (hc : c < 3) : alC g i c < 100 := by
  have h := hv.2.2.2.2 i hi
  match c, hc with
  | 0, _ => omega
  | 1, _ => omega
  | 2, _ => omega
theorem bI_dec {p : Prop} [Decidable p] {b : Bool} (h : p ↔ b = true) : bI (decide p) = bI b := by
  congr 1
  cases b <;> simp_all

def clkB (g : Nat → Nat) (x y : Nat) : Int32 := if hasB g x y then nI (ckB g x y) else -5
def clkI (g : Nat → Nat) (i : Nat) : Int32 := clkB g (lnC g i 0) (lnC g i 1)
theorem cntB_t {p : Nat → Bool} {n : Nat} (h : p n = true) : cntB p (n + 1) = cntB p n + 1 := by
  show cntB p n + (if p n then 1 else 0) = _
  rw [if_pos h]
theorem cntB_f {p : Nat → Bool} {n : Nat} (h : p n = false) : cntB p (n + 1) = cntB p n := by
  show cntB p n + (if p n then 1 else 0) = _
  rw [h]; rfl
theorem nI_max {x y : Nat} (hx : x < 2 ^ 31) (hy : y < 2 ^ 31) : (if nI x < nI y then nI y else nI x) = nI (max x y) := by
  by_cases h : x < y
  · rw [if_pos (nI_lt h hy), Nat.max_eq_right (by omega)]
  · rw [if_neg (nI_nlt (by omega) hx), Nat.max_eq_left (by omega)]
theorem nI_min {x y : Nat} (hx : x < 2 ^ 31) (hy : y < 2 ^ 31) : (if nI y < nI x then nI y else nI x) = nI (min x y) := by
  by_cases h : y < x
  · rw [if_pos (nI_lt h hx), Nat.min_eq_right (by omega)]
  · rw [if_neg (nI_nlt (by omega) hy), Nat.min_eq_left (by omega)]
theorem clkB_5 {g : Nat → Nat} {x y : Nat} (hx : x < 14) (hy : y < 14) : clkB g x y = -5 ↔ hasB g x y = false := by
  unfold clkB
  have := ckB_lt (g := g) hx hy
  cases hasB g x y with
  | true => simp [nI_ne5 (show ckB g x y < 2 ^ 31 by omega)]
  | false => simp
theorem hasB_t {g : Nat → Nat} {x y : Nat} (h : ¬ (g x = 0 ∧ g y = 0)) : hasB g x y = true := by
  unfold hasB
  by_cases h1 : g x = 0
  · have : ¬ g y = 0 := fun e => h ⟨h1, e⟩
    simp [h1, this]
  · simp [h1]
theorem hasB_f {g : Nat → Nat} {x y : Nat} (h1 : g x = 0) (h2 : g y = 0) : hasB g x y = false := by simp [hasB, h1, h2]
def refL (k : Nat) (x y len : Int32) : Int32 := if len < 1 ∨ 20 < len ∨ x = y then -2 else if k = 24 then -3 else 0
def refA (k : Nat) (len : Int32) : Int32 := if len < 0 ∨ 20 < len then -2 else if k = 12 then -3 else 0
theorem tFull_n {n cn k : Nat} (h : (k + 1) * cn < 2 ^ 31) (hn : n < 2 ^ 31) : tFull n (nI cn) (nI k) = decide (n < (k + 1) * cn) := by
  unfold tFull
  have e : ((nI k + 1) * nI cn ≤ nI n) ↔ ((k + 1) * cn ≤ n) := by rw [nI_1, pk_mul]; exact nI_leI h hn
  have e2 : decide ((nI k + 1) * nI cn ≤ nI n) = decide ((k + 1) * cn ≤ n) := decide_eq_decide.mpr e
  rw [e2]
  by_cases hh : n < (k + 1) * cn
  · simp [hh]
  · simp [hh, Nat.not_lt.mp hh]
theorem tAdd_n {n cn k : Nat} (h : (k + 1) * cn ≤ n) (hn : n < 2 ^ 31) : tAdd n (nI cn) (nI k) = nI k ∧ tAdd' n (nI cn) (nI k) = nI (k + 1) := by
  have e0 : tFull n (nI cn) (nI k) = false := by
    rw [tFull_n (by omega) hn]
    simp; omega
  unfold tAdd tAdd'
  rw [e0]
  exact ⟨(congrArg (· - 1) (nI_1 k)).trans (nI_pred k), nI_1 k⟩
/-- what a lane that comes makes of the rows -/
def pAdd (f : Nat → Int32) (k : Nat) (x y len d : Int32) : Nat → Int32 := upd (upd (upd (upd (upd f (k * 5 + 0) x) (k * 5 + 1) y) (k * 5 + 2) len) (k * 5 + 3) d) (k * 5 + 4) 0
def pAddA (f : Nat → Int32) (k : Nat) (x len d : Int32) : Nat → Int32 := upd (upd (upd f (k * 3 + 0) x) (k * 3 + 1) len) (k * 3 + 2) d

