/-! ACTS ON THE STATE g, in the reference's layout -/
def gAdd (g : Nat → Nat) (x y ln d : Nat) : Nat → Nat := updN (updN (updN (updN (updN (updN g (15 + 5 * kL g) x) (15 + 5 * kL g + 1) y) (15 + 5 * kL g + 2) ln) (15 + 5 * kL g + 3) d) (15 + 5 * kL g + 4) 0) 14 (kL g + 1)
def gAddA (g : Nat → Nat) (x ln d : Nat) : Nat → Nat := updN (updN (updN (updN g (141 + 3 * kA g) x) (141 + 3 * kA g + 1) ln) (141 + 3 * kA g + 2) d) 140 (kA g + 1)
def gCl (g : Nat → Nat) (i v : Nat) : Nat → Nat := updN g (15 + 5 * i + 4) v
def gRk (g : Nat → Nat) (x r : Nat) : Nat → Nat := updN g x r
def gRem (g : Nat → Nat) (i : Nat) : Nat → Nat := updN (fun k => if 15 + 5 * i ≤ k ∧ k < 130 then g (k + 5) else g k) 14 (kL g - 1)
def gRemA (g : Nat → Nat) (i : Nat) : Nat → Nat := updN (fun k => if 141 + 3 * i ≤ k ∧ k < 174 then g (k + 3) else g k) 140 (kA g - 1)
theorem uN_s {f : Nat → Nat} {k v : Nat} : updN f k v k = v := if_pos rfl
theorem uN_n {f : Nat → Nat} {k v j : Nat} (h : j ≠ k) : updN f k v j = f j := if_neg h
-- rank
theorem PR_rk {g : Nat → Nat} {P : PC} (h : PR g P) {x r : Nat} (hx : x < 14) : PR (gRk g x r) (upd P.1 x (nI r), P.2.1, P.2.2.1, P.2.2.2.1, P.2.2.2.2) := by
  obtain ⟨h1, h2, h3, h4, h5⟩ := h
  have e1 : kL (gRk g x r) = kL g := uN_n (by omega)
  have e2 : kA (gRk g x r) = kA g := uN_n (by omega)
  refine ⟨fun y hy => ?_, fun i c hi hc => ?_, ?_, fun i c hi hc => ?_, ?_⟩
  · by_cases hxy : y = x
    · subst hxy
      show upd P.1 y (nI r) y = nI (updN g y r y)
      rw [pk_us, uN_s]
    · show upd P.1 x (nI r) y = nI (updN g x r y)
      rw [pk_un hxy, uN_n hxy]
      exact h1 y hy
  · rw [e1] at hi
    rw [show lnC (gRk g x r) i c = lnC g i c from uN_n (by omega)]
    exact h2 i c hi hc
  · rw [e1]; exact h3
  · rw [e2] at hi
    rw [show alC (gRk g x r) i c = alC g i c from uN_n (by omega)]
    exact h4 i c hi hc
  · rw [e2]; exact h5
theorem Vg_rk {g : Nat → Nat} (hv : Vg g) {x r : Nat} (hx : x < 14) (hr : r ≤ 9) : Vg (gRk g x r) := by
  obtain ⟨h1, h2, h3, h4, h5⟩ := hv
  have e1 : kL (gRk g x r) = kL g := uN_n (by omega)
  have e2 : kA (gRk g x r) = kA g := uN_n (by omega)
  have e3 : ∀ i c, lnC (gRk g x r) i c = lnC g i c := fun i c => uN_n (by omega)
  have e4 : ∀ i c, alC (gRk g x r) i c = alC g i c := fun i c => uN_n (by omega)
  refine ⟨by rw [e1]; exact h1, by rw [e2]; exact h2, fun y hy => ?_, fun i hi => ?_, fun i hi => ?_⟩
  · by_cases hxy : y = x
    · subst hxy
      show updN g y r y ≤ 9
      rw [uN_s]; exact hr
    · show updN g x r y ≤ 9
      rw [uN_n hxy]; exact h3 y hy
  · rw [e1] at hi
    simp only [e3]
    exact h4 i hi
  · rw [e2] at hi
    simp only [e4]
    exact h5 i hi
-- a lane closed or opened
theorem cl_ln {g : Nat → Nat} {i v j c : Nat} (hc : c < 5) : lnC (gCl g i v) j c = if j = i ∧ c = 4 then v else lnC g j c := by
  unfold lnC gCl
  by_cases h : j = i ∧ c = 4
  · obtain ⟨rfl, rfl⟩ := h
    rw [if_pos ⟨rfl, rfl⟩, show 15 + (j * 5 + 4) = 15 + 5 * j + 4 by omega, uN_s]
  · rw [if_neg h, uN_n (by omega)]
theorem PR_cl {g : Nat → Nat} {P : PC} (h : PR g P) (hv : Vg g) {i : Nat} {v : Nat} (hi : i < kL g) : PR (gCl g i v) (P.1, upd P.2.1 (i * 5 + 4) (nI v), P.2.2.1, P.2.2.2.1, P.2.2.2.2) := by
  obtain ⟨h1, h2, h3, h4, h5⟩ := h
  have q := hv.1
  have e1 : kL (gCl g i v) = kL g := uN_n (by omega)
  have e2 : kA (gCl g i v) = kA g := uN_n (by omega)
  refine ⟨fun y hy => ?_, fun j c hj hc => ?_, ?_, fun j c hj hc => ?_, ?_⟩
  · rw [show gCl g i v y = g y from uN_n (by omega)]
    exact h1 y hy
  · rw [e1] at hj
    rw [cl_ln hc]
    by_cases hh : j = i ∧ c = 4
    · obtain ⟨rfl, rfl⟩ := hh
      rw [if_pos ⟨rfl, rfl⟩]
      exact pk_us
    · rw [if_neg hh]
      show upd P.2.1 (i * 5 + 4) (nI v) (j * 5 + c) = _
      rw [pk_un (by omega)]
      exact h2 j c hj hc
  · rw [e1]; exact h3
  · rw [e2] at hj
    rw [show alC (gCl g i v) j c = alC g j c from uN_n (by omega)]
    exact h4 j c hj hc
  · rw [e2]; exact h5
theorem Vg_cl {g : Nat → Nat} (hv : Vg g) {i v : Nat} (hi : i < kL g) (hw : v ≤ 1) : Vg (gCl g i v) := by
  obtain ⟨h1, h2, h3, h4, h5⟩ := hv
  have e1 : kL (gCl g i v) = kL g := uN_n (by omega)
  have e2 : kA (gCl g i v) = kA g := uN_n (by omega)
  have e4 : ∀ j c, alC (gCl g i v) j c = alC g j c := fun j c => uN_n (by omega)
  refine ⟨by rw [e1]; exact h1, by rw [e2]; exact h2, fun y hy => ?_, fun j hj => ?_, fun j hj => ?_⟩
  · rw [show gCl g i v y = g y from uN_n (by omega)]
    exact h3 y hy
  · rw [e1] at hj
    rw [cl_ln (by decide), cl_ln (by decide), cl_ln (by decide), cl_ln (by decide), cl_ln (by decide), if_neg (by omega), if_neg (by omega), if_neg (by omega), if_neg (by omega)]
    obtain ⟨q0, q1, q2, q3, q4, q5, q6⟩ := h4 j hj
    refine ⟨q0, q1, q2, q3, q4, q5, ?_⟩
    split
    · exact hw
    · exact q6
  · rw [e2] at hj
    simp only [e4]
    exact h5 j hj
-- a lane comes
theorem add_ln {g : Nat → Nat} {x y ln d j c : Nat} (hc : c < 5) : lnC (gAdd g x y ln d) j c = if j = kL g then (if c = 0 then x else if c = 1 then y else if c = 2 then ln else if c = 3 then d else 0) else lnC g j c := by
  unfold lnC gAdd
  by_cases h : j = kL g
  · rw [if_pos h]
    match c, hc with
    | 0, _ => rw [uN_n (by omega), uN_n (by omega), uN_n (by omega), uN_n (by omega), uN_n (by omega), show 15 + (j * 5 + 0) = 15 + 5 * kL g by omega, uN_s]; rfl
    | 1, _ => rw [uN_n (by omega), uN_n (by omega), uN_n (by omega), uN_n (by omega), show 15 + (j * 5 + 1) = 15 + 5 * kL g + 1 by omega, uN_s]; rfl
    | 2, _ => rw [uN_n (by omega), uN_n (by omega), uN_n (by omega), show 15 + (j * 5 + 2) = 15 + 5 * kL g + 2 by omega, uN_s]; rfl
    | 3, _ => rw [uN_n (by omega), uN_n (by omega), show 15 + (j * 5 + 3) = 15 + 5 * kL g + 3 by omega, uN_s]; rfl
    | 4, _ => rw [uN_n (by omega), show 15 + (j * 5 + 4) = 15 + 5 * kL g + 4 by omega, uN_s]; rfl
  · rw [if_neg h, uN_n (by omega), uN_n (by omega), uN_n (by omega), uN_n (by omega), uN_n (by omega), uN_n (by omega)]
theorem add_o {g : Nat → Nat} {x y ln d k : Nat} (h14 : k ≠ 14) (h : k < 15 + 5 * kL g ∨ 15 + 5 * kL g + 4 < k) : gAdd g x y ln d k = g k := by
  unfold gAdd
  rw [uN_n h14, uN_n (by omega), uN_n (by omega), uN_n (by omega), uN_n (by omega), uN_n (by omega)]
theorem add_k {g : Nat → Nat} {x y ln d : Nat} : kL (gAdd g x y ln d) = kL g + 1 := by
  show gAdd g x y ln d 14 = _
  unfold gAdd
  exact uN_s
theorem pAdd_at {f : Nat → Int32} {k : Nat} {x y ln d : Int32} {j c : Nat} (hc : c < 5) : pAdd f k x y ln d (j * 5 + c) = if j = k then (if c = 0 then x else if c = 1 then y else if c = 2 then ln else if c = 3 then d else 0) else f (j * 5 + c) := by
  unfold pAdd
  by_cases h : j = k
  · subst h
    rw [if_pos rfl]
    match c, hc with
    | 0, _ => rw [pk_un (by omega), pk_un (by omega), pk_un (by omega), pk_un (by omega), pk_us]; rfl
    | 1, _ => rw [pk_un (by omega), pk_un (by omega), pk_un (by omega), pk_us]; rfl
    | 2, _ => rw [pk_un (by omega), pk_un (by omega), pk_us]; rfl
    | 3, _ => rw [pk_un (by omega), pk_us]; rfl
    | 4, _ => rw [pk_us]; rfl
  · rw [if_neg h, pk_un (by omega), pk_un (by omega), pk_un (by omega), pk_un (by omega), pk_un (by omega)]
theorem PR_add {g : Nat → Nat} {P : PC} (h : PR g P) {x y ln d : Nat} (hk : kL g < 24) : PR (gAdd g x y ln d) (P.1, pAdd P.2.1 (kL g) (nI x) (nI y) (nI ln) (nI d), nI (kL g + 1), P.2.2.2.1, P.2.2.2.2) := by
  obtain ⟨h1, h2, h3, h4, h5⟩ := h
  have e2 : kA (gAdd g x y ln d) = kA g := add_o (by decide) (by omega)
  refine ⟨fun z hz => ?_, fun j c hj hc => ?_, by rw [add_k], fun j c hj hc => ?_, ?_⟩
  · rw [add_o (by omega) (by omega)]
    exact h1 z hz
  · rw [add_k] at hj
    rw [add_ln hc]
    show pAdd P.2.1 (kL g) _ _ _ _ (j * 5 + c) = _
    rw [pAdd_at hc]
    by_cases hjk : j = kL g
    · rw [if_pos hjk, if_pos hjk]
      match c, hc with
      | 0, _ => rfl
      | 1, _ => rfl
      | 2, _ => rfl
      | 3, _ => rfl
      | 4, _ => rfl
    · rw [if_neg hjk, if_neg hjk]
      exact h2 j c (by omega) hc
  · rw [e2] at hj
    rw [show alC (gAdd g x y ln d) j c = alC g j c from add_o (by omega) (by omega)]
    exact h4 j c hj hc
  · rw [e2]; exact h5
theorem Vg_add {g : Nat → Nat} (hv : Vg g) {x y ln d : Nat} (hk : kL g < 24) (hx : x < 14) (hy : y < 14) (hxy : x ≠ y) (l1 : 1 ≤ ln) (l2 : ln ≤ 20) (hd : d < 4) : Vg (gAdd g x y ln d) := by
  obtain ⟨h1, h2, h3, h4, h5⟩ := hv
  have e2 : kA (gAdd g x y ln d) = kA g := add_o (by decide) (by omega)
  refine ⟨by rw [add_k]; omega, by rw [e2]; exact h2, fun z hz => ?_, fun j hj => ?_, fun j hj => ?_⟩
  · rw [add_o (by omega) (by omega)]
    exact h3 z hz
  · rw [add_k] at hj
    rw [add_ln (by decide), add_ln (by decide), add_ln (by decide), add_ln (by decide), add_ln (by decide)]
    by_cases hjk : j = kL g
    · simp only [if_pos hjk]
      exact ⟨hx, hy, hxy, l1, l2, hd, by simp⟩
    · simp only [if_neg hjk]
      exact h4 j (by omega)
  · rw [e2] at hj
    rw [show alC (gAdd g x y ln d) j 0 = alC g j 0 from add_o (by omega) (by omega), show alC (gAdd g x y ln d) j 1 = alC g j 1 from add_o (by omega) (by omega), show alC (gAdd g x y ln d) j 2 = alC g j 2 from add_o (by omega) (by omega)]
    exact h5 j hj
-- an alley comes
theorem addA_al {g : Nat → Nat} {x ln d j c : Nat} (hc : c < 3) : alC (gAddA g x ln d) j c = if j = kA g then (if c = 0 then x else if c = 1 then ln else d) else alC g j c := by
  unfold alC gAddA
  by_cases h : j = kA g
  · rw [if_pos h]
    match c, hc with
    | 0, _ => rw [uN_n (by omega), uN_n (by omega), uN_n (by omega), show 141 + (j * 3 + 0) = 141 + 3 * kA g by omega, uN_s]; rfl
    | 1, _ => rw [uN_n (by omega), uN_n (by omega), show 141 + (j * 3 + 1) = 141 + 3 * kA g + 1 by omega, uN_s]; rfl
    | 2, _ => rw [uN_n (by omega), show 141 + (j * 3 + 2) = 141 + 3 * kA g + 2 by omega, uN_s]; rfl
  · rw [if_neg h, uN_n (by omega), uN_n (by omega), uN_n (by omega), uN_n (by omega)]
theorem addA_o {g : Nat → Nat} {x ln d k : Nat} (h : k < 140) : gAddA g x ln d k = g k := by
  unfold gAddA
  rw [uN_n (by omega), uN_n (by omega), uN_n (by omega), uN_n (by omega)]
theorem addA_k {g : Nat → Nat} {x ln d : Nat} : kA (gAddA g x ln d) = kA g + 1 := by
  show gAddA g x ln d 140 = _
  unfold gAddA
  exact uN_s
theorem pAddA_at {f : Nat → Int32} {k : Nat} {x ln d : Int32} {j c : Nat} (hc : c < 3) : pAddA f k x ln d (j * 3 + c) = if j = k then (if c = 0 then x else if c = 1 then ln else d) else f (j * 3 + c) := by
  unfold pAddA
  by_cases h : j = k
  · subst h
    rw [if_pos rfl]
    match c, hc with
    | 0, _ => rw [pk_un (by omega), pk_un (by omega), pk_us]; rfl
    | 1, _ => rw [pk_un (by omega), pk_us]; rfl
    | 2, _ => rw [pk_us]; rfl
  · rw [if_neg h, pk_un (by omega), pk_un (by omega), pk_un (by omega)]
theorem PR_addA {g : Nat → Nat} {P : PC} (h : PR g P) (hv : Vg g) {x ln d : Nat} : PR (gAddA g x ln d) (P.1, P.2.1, P.2.2.1, pAddA P.2.2.2.1 (kA g) (nI x) (nI ln) (nI d), nI (kA g + 1)) := by
  obtain ⟨h1, h2, h3, h4, h5⟩ := h
  have q := hv.1
  have e1 : kL (gAddA g x ln d) = kL g := addA_o (by decide)
  refine ⟨fun z hz => ?_, fun j c hj hc => ?_, ?_, fun j c hj hc => ?_, by rw [addA_k]⟩
  · rw [addA_o (by omega)]
    exact h1 z hz
  · rw [e1] at hj
    rw [show lnC (gAddA g x ln d) j c = lnC g j c from addA_o (by omega)]
    exact h2 j c hj hc
  · rw [e1]; exact h3
  · rw [addA_k] at hj
    rw [addA_al hc]
    show pAddA P.2.2.2.1 (kA g) _ _ _ (j * 3 + c) = _
    rw [pAddA_at hc]
    by_cases hjk : j = kA g
    · rw [if_pos hjk, if_pos hjk]
      match c, hc with
      | 0, _ => rfl
      | 1, _ => rfl
      | 2, _ => rfl
    · rw [if_neg hjk, if_neg hjk]
      exact h4 j c (by omega) hc
theorem Vg_addA {g : Nat → Nat} (hv : Vg g) {x ln d : Nat} (hk : kA g < 12) (hx : x < 14) (l2 : ln ≤ 20) (hd : d < 4) : Vg (gAddA g x ln d) := by
  obtain ⟨h1, h2, h3, h4, h5⟩ := hv
  have e1 : kL (gAddA g x ln d) = kL g := addA_o (by decide)
  refine ⟨by rw [e1]; exact h1, by rw [addA_k]; omega, fun z hz => ?_, fun j hj => ?_, fun j hj => ?_⟩
  · rw [addA_o (by omega)]
    exact h3 z hz
  · rw [e1] at hj
    have e3 : ∀ c, c < 5 → lnC (gAddA g x ln d) j c = lnC g j c := fun c hc => addA_o (by omega)
    rw [e3 0 (by decide), e3 1 (by decide), e3 2 (by decide), e3 3 (by decide), e3 4 (by decide)]
    exact h4 j hj
  · rw [addA_k] at hj
    rw [addA_al (by decide), addA_al (by decide), addA_al (by decide)]
    by_cases hjk : j = kA g
    · simp only [if_pos hjk]
      exact ⟨hx, l2, hd⟩
    · simp only [if_neg hjk]
      exact h5 j (by omega)
-- a lane goes
theorem rem_ln {g : Nat → Nat} {i j c : Nat} (hj : j < 23) (hc : c < 5) : lnC (gRem g i) j c = if i ≤ j then lnC g (j + 1) c else lnC g j c := by
  unfold lnC gRem
  rw [uN_n (by omega)]
  by_cases h : i ≤ j
  · rw [if_pos h, if_pos (by omega)]
    congr 1
    omega
  · rw [if_neg h, if_neg (by omega)]
theorem rem_o {g : Nat → Nat} {i k : Nat} (h14 : k ≠ 14) (h : k < 15 ∨ 130 ≤ k) : gRem g i k = g k := by
  unfold gRem
  rw [uN_n h14, if_neg (by omega)]
theorem rem_k {g : Nat → Nat} {i : Nat} : kL (gRem g i) = kL g - 1 := by
  show gRem g i 14 = _
  unfold gRem
  exact uN_s
theorem PR_rem {g : Nat → Nat} {P : PC} (h : PR g P) (hv : Vg g) {i : Nat} (hi : i < kL g) : PR (gRem g i) (P.1, tShift P.2.1 5 i ((kL g - 1) * 5), nI (kL g - 1), P.2.2.2.1, P.2.2.2.2) := by
  obtain ⟨h1, h2, h3, h4, h5⟩ := h
  have q := hv.1
  have e2 : kA (gRem g i) = kA g := rem_o (by decide) (by omega)
  refine ⟨fun z hz => ?_, fun j c hj hc => ?_, by rw [rem_k], fun j c hj hc => ?_, ?_⟩
  · rw [rem_o (by omega) (by omega)]
    exact h1 z hz
  · rw [rem_k] at hj
    rw [rem_ln (by omega) hc]
    show tShift P.2.1 5 i ((kL g - 1) * 5) (j * 5 + c) = _
    unfold tShift
    by_cases hij : i ≤ j
    · rw [if_pos (by omega), if_pos hij, ← h2 (j + 1) c (by omega) hc]
      exact congrArg P.2.1 (by omega)
    · rw [if_neg (by omega), if_neg hij]
      exact h2 j c (by omega) hc
  · rw [e2] at hj
    rw [show alC (gRem g i) j c = alC g j c from rem_o (by omega) (by omega)]
    exact h4 j c hj hc
  · rw [e2]; exact h5
theorem Vg_rem {g : Nat → Nat} (hv : Vg g) {i : Nat} : Vg (gRem g i) := by
  obtain ⟨h1, h2, h3, h4, h5⟩ := hv
  have e2 : kA (gRem g i) = kA g := rem_o (by decide) (by omega)
  refine ⟨by rw [rem_k]; omega, by rw [e2]; exact h2, fun z hz => ?_, fun j hj => ?_, fun j hj => ?_⟩
  · rw [rem_o (by omega) (by omega)]
    exact h3 z hz
  · rw [rem_k] at hj
    rw [rem_ln (by omega) (by decide), rem_ln (by omega) (by decide), rem_ln (by omega) (by decide), rem_ln (by omega) (by decide), rem_ln (by omega) (by decide)]
    by_cases hij : i ≤ j
    · simp only [if_pos hij]
      exact h4 (j + 1) (by omega)
    · simp only [if_neg hij]
      exact h4 j (by omega)
  · rw [e2] at hj
    rw [show alC (gRem g i) j 0 = alC g j 0 from rem_o (by omega) (by omega), show alC (gRem g i) j 1 = alC g j 1 from rem_o (by omega) (by omega), show alC (gRem g i) j 2 = alC g j 2 from rem_o (by omega) (by omega)]
    exact h5 j hj
-- an alley goes
theorem remA_al {g : Nat → Nat} {i j c : Nat} (hj : j < 11) (hc : c < 3) : alC (gRemA g i) j c = if i ≤ j then alC g (j + 1) c else alC g j c := by
  unfold alC gRemA
  rw [uN_n (by omega)]
  by_cases h : i ≤ j
  · rw [if_pos h, if_pos (by omega)]
    congr 1
    omega
  · rw [if_neg h, if_neg (by omega)]
theorem remA_o {g : Nat → Nat} {i k : Nat} (h : k < 140) : gRemA g i k = g k := by
  unfold gRemA
  rw [uN_n (by omega), if_neg (by omega)]
theorem remA_k {g : Nat → Nat} {i : Nat} : kA (gRemA g i) = kA g - 1 := by
  show gRemA g i 140 = _
  unfold gRemA
  exact uN_s
theorem PR_remA {g : Nat → Nat} {P : PC} (h : PR g P) (hv : Vg g) {i : Nat} (hi : i < kA g) : PR (gRemA g i) (P.1, P.2.1, P.2.2.1, tShift P.2.2.2.1 3 i ((kA g - 1) * 3), nI (kA g - 1)) := by
  obtain ⟨h1, h2, h3, h4, h5⟩ := h
  have q := hv.1
  have q2 := hv.2.1
  have e1 : kL (gRemA g i) = kL g := remA_o (by decide)
  refine ⟨fun z hz => ?_, fun j c hj hc => ?_, ?_, fun j c hj hc => ?_, by rw [remA_k]⟩
  · rw [remA_o (by omega)]
    exact h1 z hz
  · rw [e1] at hj
    rw [show lnC (gRemA g i) j c = lnC g j c from remA_o (by omega)]
    exact h2 j c hj hc
  · rw [e1]; exact h3
  · rw [remA_k] at hj
    rw [remA_al (by omega) hc]
    show tShift P.2.2.2.1 3 i ((kA g - 1) * 3) (j * 3 + c) = _
    unfold tShift
    by_cases hij : i ≤ j
    · rw [if_pos (by omega), if_pos hij, ← h4 (j + 1) c (by omega) hc]
      exact congrArg P.2.2.2.1 (by omega)
    · rw [if_neg (by omega), if_neg hij]
      exact h4 j c (by omega) hc
theorem Vg_remA {g : Nat → Nat} (hv : Vg g) {i : Nat} : Vg (gRemA g i) := by
  obtain ⟨h1, h2, h3, h4, h5⟩ := hv
  have e1 : kL (gRemA g i) = kL g := remA_o (by decide)
  refine ⟨by rw [e1]; exact h1, by rw [remA_k]; omega, fun z hz => ?_, fun j hj => ?_, fun j hj => ?_⟩
  · rw [remA_o (by omega)]
    exact h3 z hz
  · rw [e1] at hj
    have e3 : ∀ c, c < 5 → lnC (gRemA g i) j c = lnC g j c := fun c hc => remA_o (by omega)
    rw [e3 0 (by decide), e3 1 (by decide), e3 2 (by decide), e3 3 (by decide), e3 4 (by decide)]
    exact h4 j hj
  · rw [remA_k] at hj
    rw [remA_al (by omega) (by decide), remA_al (by omega) (by decide), remA_al (by omega) (by decide)]
    by_cases hij : i ≤ j
    · simp only [if_pos hij]
      exact h5 (j + 1) (by omega)
    · simp only [if_neg hij]
      exact h5 j (by omega)

