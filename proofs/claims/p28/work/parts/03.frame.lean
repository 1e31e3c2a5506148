/-! THE JUDGEMENT J: W over a world in blocks and named locals (own work) -/
abbrev GG : Type := va_G × (Nat → ClassId)
def zK (G : GG) (s : State) : Prop := va_K G.1 vwCl [(G.2 0, .int), (G.2 1, .char), (G.2 2, .object "DistrictTotals$Plan")] s ∧ va_AO "DistrictTotals$Plan" s
theorem zK_moved {G : GG} {u U : State} (h : u.vm.Alike U.vm) (k : zK G u) : zK G U := ⟨va_K.moved h k.1, va_AO.moved h k.2⟩
/-- named locals, by place -/
def zlo (ls : Array Slot) (lo : List (Option Value)) : Prop := ls.size = lo.length ∧ lv_wf ls ∧ ∀ (i : Nat) (v : Value), lo[i]? = some (some v) → ls[i]? = some (.val v) ∧ v.category = 1
def zasc (lo : List (Option Value)) : List (Nat × Value) := (List.range lo.length).filterMap (fun i => (lo[i]?).bind (fun x => x.map (fun v => (i, v))))
theorem za_mem {lo : List (Option Value)} {q : Nat × Value} : q ∈ zasc lo ↔ lo[q.1]? = some (some q.2) := by
  unfold zasc
  rw [List.mem_filterMap]
  constructor
  · rintro ⟨i, hi, h⟩
    cases hx : lo[i]? with
    | none => rw [hx] at h; cases h
    | some x =>
      rw [hx] at h
      cases x with
      | none => cases h
      | some v =>
        cases h
        exact hx
  · intro h
    have hl : q.1 < lo.length := (List.getElem?_eq_some_iff.mp h).1
    refine ⟨q.1, List.mem_range.mpr hl, ?_⟩
    rw [h]
    rfl
theorem zl_has {ls : Array Slot} {lo : List (Option Value)} (h : zlo ls lo) : lv_has ls lo.length (zasc lo) := ⟨h.1, h.2.1, fun q hq => (h.2.2 q.1 q.2 (za_mem.mp hq)).1⟩
theorem zl_set {ls ls' : Array Slot} {lo : List (Option Value)} {i : Nat} {v : Value} (h : zlo ls lo) (hi : i < lo.length) (hc : v.category = 1) (h' : lv_has ls' lo.length ((i, v) :: (zasc lo).filter (fun q => !(q.1 == i) && !(q.1 + 1 == i && q.2.category == 2)))) : zlo ls' (lo.set i (some v)) := by
  refine ⟨by rw [h'.1, List.length_set], h'.2.1, fun j w hj => ?_⟩
  by_cases hij : i = j
  · subst hij
    rw [List.getElem?_set_self hi] at hj
    cases hj
    exact ⟨h'.2.2 (i, v) List.mem_cons_self, hc⟩
  · rw [List.getElem?_set_ne hij] at hj
    have hw := (h.2.2 j w hj).2
    refine ⟨h'.2.2 (j, w) (List.mem_cons_of_mem _ (List.mem_filter.mpr ⟨za_mem.mpr hj, ?_⟩)), hw⟩
    have : ¬ j = i := fun e => hij e.symm
    simp [this, hw]
theorem zl_mono {ls : Array Slot} {lo lo' : List (Option Value)} (h : zlo ls lo) (hl : lo'.length = lo.length) (hs : ∀ (i : Nat) (v : Value), lo'[i]? = some (some v) → lo[i]? = some (some v)) : zlo ls lo' := ⟨by rw [hl]; exact h.1, h.2.1, fun i v hv => h.2.2 i v (hs i v hv)⟩
theorem zl_args1 (vs : List Value) (hc : ∀ v ∈ vs, v.category = 1) : ∀ (k i : Nat) (v : Value), vs[i]? = some v → (k + i, v) ∈ lv_args k vs := by
  induction vs with
  | nil => intro k i v h; cases i <;> cases h
  | cons a l ih =>
    intro k i v h
    have ha : a.category = 1 := hc a List.mem_cons_self
    cases i with
    | zero => cases h; exact List.mem_cons_self
    | succ i =>
      refine List.mem_cons_of_mem _ ?_
      rw [if_neg (by omega)]
      have := ih (fun v hv => hc v (List.mem_cons_of_mem _ hv)) (k + 1) i v h
      rw [show k + (i + 1) = k + 1 + i by omega]
      exact this
theorem zl_sl1 (vs : List Value) (hc : ∀ v ∈ vs, v.category = 1) : (lg_sl vs).length = vs.length := by
  induction vs with
  | nil => rfl
  | cons a l ih =>
    have ha : a.category = 1 := hc a List.mem_cons_self
    have := ih (fun v hv => hc v (List.mem_cons_of_mem _ hv))
    unfold lg_sl at this ⊢
    rw [List.flatMap_cons, if_neg (by omega), List.length_append, this]
    simp; omega
theorem zl_entry (vs : List Value) (n : Nat) (hc : ∀ v ∈ vs, v.category = 1) (h : vs.length ≤ n) : zlo ((lg_sl vs ++ List.replicate (n - (lg_sl vs).length) Slot.unset).toArray) (vs.map some ++ List.replicate (n - vs.length) none) := by
  have hl := zl_sl1 vs hc
  have h0 := lv_entry vs (n := n) (by rw [hl]; exact h)
  refine ⟨?_, h0.2.1, fun i v hv => ?_⟩
  · rw [h0.1]; simp; omega
  · by_cases hi : i < vs.length
    · rw [List.getElem?_append_left (by simpa using hi)] at hv
      rw [List.getElem?_map] at hv
      cases hx : vs[i]? with
      | none => rw [hx] at hv; cases hv
      | some w =>
        rw [hx] at hv
        cases hv
        have := zl_args1 vs hc 0 i v hx
        rw [Nat.zero_add] at this
        exact ⟨h0.2.2 _ this, hc v (List.mem_of_getElem? hx)⟩
    · rw [List.getElem?_append_right (by simpa using hi)] at hv
      rw [List.getElem?_replicate] at hv
      split at hv
      · cases hv
      · cases hv
/-- blocks: where one cell stands in the flat world -/
theorem zf_at {bs : List va_W} {i : Nat} {x : Nat × va_E} (h : bs[i]? = some [x]) : ∃ q, bs.flatten[q]? = some x ∧ ∀ y, (bs.set i [y]).flatten = bs.flatten.set q y := by
  induction bs generalizing i with
  | nil => cases h
  | cons b l ih =>
    cases i with
    | zero =>
      have hb : b = [x] := Option.some.inj h
      subst hb
      exact ⟨0, rfl, fun y => rfl⟩
    | succ i =>
      obtain ⟨q, h1, h2⟩ := ih (i := i) h
      refine ⟨b.length + q, ?_, fun y => ?_⟩
      · rw [List.flatten_cons, List.getElem?_append_right (by omega)]
        rw [show b.length + q - b.length = q by omega]
        exact h1
      · rw [List.set_cons_succ, List.flatten_cons, h2, List.flatten_cons, List.set_append_right _ _ (by omega)]
        rw [show b.length + q - b.length = q by omega]
theorem zv_mem {D : va_G} {cl : List vw_C} {ws : va_W} {H : Heap} : va_P D cl ws H ↔ ∀ q ∈ ws, va_at D cl q H := by
  constructor
  · intro h q hq
    obtain ⟨k, hk⟩ := List.getElem?_of_mem hq
    exact h k q hk
  · intro h k q hk
    exact h q (List.mem_of_getElem? hk)
theorem zv_iff {A : Nat → Prop} {ws : va_W} : va_D A ws ↔ (ws.map Prod.fst).Nodup ∧ ∀ q ∈ ws, A q.1 := by
  constructor
  · intro h
    refine ⟨?_, fun q hq => ?_⟩
    · rw [List.nodup_iff_pairwise_ne, List.pairwise_iff_getElem]
      intro i j hi hj hij he
      rw [List.length_map] at hi hj
      rw [List.getElem_map, List.getElem_map] at he
      have := h.1 i j _ _ (List.getElem?_eq_getElem hi) (List.getElem?_eq_getElem hj) he
      omega
    · obtain ⟨k, hk⟩ := List.getElem?_of_mem hq
      exact h.2 k q hk
  · intro h
    refine ⟨fun i j p q hi hj he => ?_, fun k q hk => h.2 q (List.mem_of_getElem? hk)⟩
    have li : i < ws.length := (List.getElem?_eq_some_iff.mp hi).1
    refine (List.getElem?_inj (by rw [List.length_map]; exact li) h.1).mp ?_
    rw [List.getElem?_map, List.getElem?_map, hi, hj]
    exact congrArg some he
theorem zv_permP {D : va_G} {cl : List vw_C} {ws ws' : va_W} {H : Heap} (h : ws.Perm ws') (k : va_P D cl ws H) : va_P D cl ws' H := zv_mem.mpr fun q hq => zv_mem.mp k q (h.mem_iff.mpr hq)
theorem zv_permD {A : Nat → Prop} {ws ws' : va_W} (h : ws.Perm ws') (k : va_D A ws) : va_D A ws' := by
  have k' := zv_iff.mp k
  exact zv_iff.mpr ⟨(h.map Prod.fst).nodup_iff.mp k'.1, fun q hq => k'.2 q (h.mem_iff.mpr hq)⟩
/-- behind a call: what came back beside the rest -/
theorem z_join {A0 : Nat → Prop} {D : va_G} {cl : List vw_C} {wc rest w1 : va_W} {H H1 : Heap} (hP : va_P D cl (wc ++ rest) H) (hD : va_D A0 (wc ++ rest)) (hk : ∀ q : Nat, q < H.size → ¬ va_A wc H.size q → H1[q]? = H[q]?) (hF : ∀ q, va_A wc H.size q → A0 q) (hP1 : va_P D cl w1 H1) (hD1 : va_D (va_A wc H.size) w1) : va_P D cl (w1 ++ rest) H1 ∧ va_D A0 (w1 ++ rest) := by
  have hD' := zv_iff.mp hD
  have hD1' := zv_iff.mp hD1
  rw [List.map_append, List.nodup_append] at hD'
  obtain ⟨⟨n1, n2, n3⟩, n4⟩ := hD'
  have apart : ∀ q ∈ rest, q.1 < H.size ∧ ¬ va_A wc H.size q.1 := by
    intro q hq
    have hl := (zv_mem.mp hP q (List.mem_append_right _ hq)).lt
    refine ⟨hl, fun h => ?_⟩
    rcases h with ⟨k, e, h⟩ | h
    · exact n3 q.1 (List.mem_map.mpr ⟨(q.1, e), List.mem_of_getElem? h, rfl⟩) q.1 (List.mem_map.mpr ⟨q, hq, rfl⟩) rfl
    · omega
  refine ⟨zv_mem.mpr fun q hq => ?_, zv_iff.mpr ⟨?_, fun q hq => ?_⟩⟩
  · rcases List.mem_append.mp hq with h | h
    · exact zv_mem.mp hP1 q h
    · obtain ⟨g1, g2⟩ := apart q h
      exact (zv_mem.mp hP q (List.mem_append_right _ h)).kept (hk q.1 g1 g2)
  · rw [List.map_append, List.nodup_append]
    refine ⟨hD1'.1, n2, fun a ha b hb hab => ?_⟩
    obtain ⟨x, hx, rfl⟩ := List.mem_map.mp ha
    obtain ⟨y, hy, rfl⟩ := List.mem_map.mp hb
    exact (apart y hy).2 (by rw [← hab]; exact hD1'.2 x hx)
  · rcases List.mem_append.mp hq with h | h
    · exact hF q.1 (hD1'.2 q h)
    · exact n4 q (List.mem_append_right _ h)
/-- blocks by places -/
def zpk (bs : List va_W) (is : List Nat) : List va_W := is.filterMap (fun i => bs[i]?)
theorem zp_range (bs : List va_W) : zpk bs (List.range bs.length) = bs := by
  unfold zpk
  induction bs with
  | nil => rfl
  | cons a l ih =>
    rw [List.length_cons, List.range_succ_eq_map, List.filterMap_cons_some (b := a) (by rfl), List.filterMap_map]
    exact congrArg (a :: ·) ih
theorem zp_perm {bs : List va_W} {is jr : List Nat} (h : (is ++ jr).isPerm (List.range bs.length) = true) : bs.flatten.Perm ((zpk bs is).flatten ++ (zpk bs jr).flatten) := by
  have h1 : (is ++ jr).Perm (List.range bs.length) := List.isPerm_iff.mp h
  have h2 : (zpk bs (is ++ jr)).Perm (zpk bs (List.range bs.length)) := h1.filterMap _
  rw [zp_range] at h2
  have h3 : zpk bs (is ++ jr) = zpk bs is ++ zpk bs jr := List.filterMap_append
  rw [h3] at h2
  rw [← List.flatten_append]
  exact (h2.symm).flatten

/-- the tables' words that ride along -/
def aw : List Cond := lw_tbl.filter goodWord
theorem aw_at {i : Nat} {w : Cond} (h : lw_tbl[i]? = some w) (hg : goodWord w = true) : w ∈ aw := List.mem_filter.mpr ⟨List.mem_of_getElem? h, hg⟩
theorem aw_tbl {w : Cond} (h : w ∈ aw) : w ∈ lw_tbl := (List.mem_filter.mp h).1
theorem aw_all {C : String} {T : u_T} {N : Nat} (ps : List Nat) (h : u_ws C T N = ps.filterMap (fun i => lw_tbl[i]?)) (hg : (u_ws C T N).all goodWord = true) : ∀ w ∈ u_ws C T N, w ∈ aw := by
  intro w hw
  have h1 := List.all_eq_true.mp hg w hw
  rw [h] at hw
  obtain ⟨i, -, hi⟩ := List.mem_filterMap.mp hw
  exact aw_at hi h1
theorem aw_good {big : List Cond} (h : ∀ w ∈ aw, w ∈ big) : GoodIn big aw := fun w hw => ⟨h w hw, good_of_word (List.mem_filter.mp hw).2⟩
theorem aw_goodc {big : List Cond} {w : Cond} (h : ∀ w ∈ aw, w ∈ big) (hw : w ∈ aw) : GoodIn big (w :: aw) := by
  intro x hx
  rcases List.mem_cons.mp hx with e | e
  · subst e; exact ⟨h _ hw, good_of_word (List.mem_filter.mp hw).2⟩
  · exact aw_good h x e
/-- what a method's body may use: the machine, the code, the tables, the law of its cells -/
def zC (p : Program) (s : State) (m : MethodId) (args : Array Value) (c : Code) (cc : ByteArray) (own : String) (nL : Nat) (G : GG) (A : Nat → Prop) : Prop :=
  p.tables.exec = Jvm.exec ∧ c.code = cc ∧ c.maxLocals = nL ∧ s.vm.findClass own = some m.cls ∧ (∀ w ∈ aw, w.before args s = true) ∧ zK G s ∧ (∀ q, s.heap.size ≤ q → A q)
def Zj (p : Program) (l : Launch) (e : Env) (R : Room) (s : State) (m : MethodId) (args : Array Value) (below : List Frame) (meth : Method) (c : Code) (G : GG) (A : Nat → Prop) (cells slots : Nat) (Q : State → Prop) (bs : List va_W) (lo : List (Option Value)) (pc : Nat) (st : List Value) : Prop :=
  ∀ (H : Heap) (locs : List Loc) (ls : Array Slot), va_P G.1 vwCl bs.flatten H → va_D A bs.flatten → va_S A s.heap H locs → zlo ls lo → W p l e R s m args below meth c H locs cells slots Q (F0 m pc ls st)
/-- a method's contract: args, the world that it needs, what may be said of answer and world -/
def zX (l : Launch) (G : GG) (y : MethodName) (cc : ByteArray) (nL : Nat) (rt : Option FieldType) (fr lc mc ms : Nat) (av : List Value) (wc : va_W) (Qu : Option Value → va_W → Prop) : Prop :=
  ∀ sz, Met l y (.code y cc nL rt :: aw) ({ frames := fr, cells := mc, slots := ms, locals := lc }) (va_Pc av (fun U => U.heap.size = sz ∧ va_P G.1 vwCl wc U.heap ∧ zK G U ∧ va_D (fun _ => True) wc)) (fun _ st oc t => (∃ (v : Option Value) (w1 : va_W), oc = .returned v ∧ Qu v w1 ∧ va_P G.1 vwCl w1 t.heap ∧ va_D (va_A wc sz) w1) ∧ va_F (va_A wc sz) st t) mc ms (va_A wc sz)
/-- its answer and world are these -/
abbrev zF (v : Option Value) (w : va_W) : Option Value → va_W → Prop := fun v' w' => v' = v ∧ w' = w
section ZJ
variable {p : Program} {l : Launch} {e : Env} {R : Room} {s : State} {m : MethodId} {args : Array Value} {below : List Frame} {meth : Method} {c : Code} {G : GG} {A : Nat → Prop} {cells slots : Nat} {Q : State → Prop} {bs : List va_W} {lo : List (Option Value)} {pc : Nat} {st : List Value} {cc : ByteArray} {own : String} {nL : Nat}
theorem zj_eq {bs' : List va_W} {lo' : List (Option Value)} {st' : List Value} (hb : bs.flatten = bs'.flatten) (hl : lo = lo') (hs : st = st') (k : Zj p l e R s m args below meth c G A cells slots Q bs' lo' pc st') : Zj p l e R s m args below meth c G A cells slots Q bs lo pc st := by
  intro H locs ls hP hD hS hv
  subst hl; subst hs
  rw [hb] at hP hD
  exact k H locs ls hP hD hS hv
theorem zj_eqp {bs' : List va_W} (hb : bs.flatten.Perm bs'.flatten) (k : Zj p l e R s m args below meth c G A cells slots Q bs' lo pc st) : Zj p l e R s m args below meth c G A cells slots Q bs lo pc st := by
  intro H locs ls hP hD hS hv
  exact k H locs ls (zv_permP hb hP) (zv_permD hb hD) hS hv
theorem zj_blk {bs' : List va_W} (hb : bs.flatten = bs'.flatten) (k : Zj p l e R s m args below meth c G A cells slots Q bs' lo pc st) : Zj p l e R s m args below meth c G A cells slots Q bs lo pc st := zj_eq hb rfl rfl k
theorem zj_loc {lo' : List (Option Value)} (hl : lo = lo') (k : Zj p l e R s m args below meth c G A cells slots Q bs lo' pc st) : Zj p l e R s m args below meth c G A cells slots Q bs lo pc st := zj_eq rfl hl rfl k
theorem zj_stk {st' : List Value} (hl : st = st') (k : Zj p l e R s m args below meth c G A cells slots Q bs lo pc st') : Zj p l e R s m args below meth c G A cells slots Q bs lo pc st := zj_eq rfl rfl hl k
theorem zj_top {x x' : Int32} (h : x = x') (k : Zj p l e R s m args below meth c G A cells slots Q bs lo pc (.int x' :: st)) : Zj p l e R s m args below meth c G A cells slots Q bs lo pc (.int x :: st) := by
  subst h; exact k
/-- locals that nobody needs any more are forgotten -/
theorem zj_forget {lo' : List (Option Value)} (hl : lo'.length = lo.length) (hs : ∀ (i : Nat) (v : Value), lo'[i]? = some (some v) → lo[i]? = some (some v)) (k : Zj p l e R s m args below meth c G A cells slots Q bs lo' pc st) : Zj p l e R s m args below meth c G A cells slots Q bs lo pc st := fun H locs ls hP hD hS hv => k H locs ls hP hD hS (zl_mono hv hl hs)
/-- a loop that counts: N - i turns are left at its head -/
theorem zj_loop (N : Nat) (bs : Nat → List va_W) (lo : Nat → List (Option Value)) (hs : ∀ i, i < N → Zj p l e R s m args below meth c G A cells slots Q (bs (i + 1)) (lo (i + 1)) pc st → Zj p l e R s m args below meth c G A cells slots Q (bs i) (lo i) pc st) (hx : Zj p l e R s m args below meth c G A cells slots Q (bs N) (lo N) pc st) : ∀ i, i ≤ N → Zj p l e R s m args below meth c G A cells slots Q (bs i) (lo i) pc st := by
  have key : ∀ k i, i + k = N → Zj p l e R s m args below meth c G A cells slots Q (bs i) (lo i) pc st := by
    intro k
    induction k with
    | zero => intro i h; rw [show i = N by omega]; exact hx
    | succ k ih => intro i h; exact hs i (by omega) (ih (i + 1) (by omega))
  intro i h
  exact key (N - i) i (by omega)
/-- a loop whose state is σ, with a measure that falls -/
theorem zj_loopW {σ : Type} (I : σ → Prop) (μ : σ → Nat) (bs : σ → List va_W) (lo : σ → List (Option Value)) (hs : ∀ x, I x → (∀ y, I y → μ y < μ x → Zj p l e R s m args below meth c G A cells slots Q (bs y) (lo y) pc st) → Zj p l e R s m args below meth c G A cells slots Q (bs x) (lo x) pc st) : ∀ x, I x → Zj p l e R s m args below meth c G A cells slots Q (bs x) (lo x) pc st := by
  have key : ∀ n x, μ x < n → I x → Zj p l e R s m args below meth c G A cells slots Q (bs x) (lo x) pc st := by
    intro n
    induction n with
    | zero => intro x h; omega
    | succ n ih => intro x h hx; exact hs x hx (fun y hy hm => ih y (by omega) hy)
  intro x hx
  exact key (μ x + 1) x (by omega) hx
theorem zj_start {y : MethodName} {rt : Option FieldType} {fr lc mc ms : Nat} {av : List Value} {wc : va_W} {Qu : Option Value → va_W → Prop} {own : String} (hy : plainName y.cls = true) (hown : y.cls = own) (hcat : ∀ v ∈ av, v.category = 1) (hlen : av.length ≤ nL)
    (body : ∀ (p : Program) (e : Env) (s : State) (m : MethodId) (args : Array Value) (below : List Frame) (meth : Method) (c : Code) (A : Nat → Prop), A = va_A wc s.heap.size → zC p s m args c cc own nL G A → meth.sig.returnType = rt → meth.locks = false → meth.name = y.name →
      Zj p l e ({ frames := fr, cells := mc, slots := ms, locals := lc } : Room) s m args below meth c G A 0 0 (MQ below (fun _ st oc t => (∃ (v : Option Value) (w1 : va_W), oc = .returned v ∧ Qu v w1 ∧ va_P G.1 vwCl w1 t.heap ∧ va_D A w1) ∧ va_F A st t) args s mc ms A) [wc] (av.map some ++ List.replicate (nL - av.length) none) 0 []) : zX l G y cc nL rt fr lc mc ms av wc Qu := by
  intro sz
  refine Met.ofW (cc := cc) (maxL := nL) (ret := rt) hy rfl ?_
  intro p e s m args below meth c s₁ B hml hv
  obtain ⟨rfl, hsz, hP, hK, hD0⟩ := hv
  have hts := atoms_spec (ws := .code y cc nL rt :: aw) B.pre
  have hown' : s.vm.findClass own = some m.cls := by rw [← hown]; exact findClass_of_methodNamed B.named
  subst hsz
  have hD := hD0.self (sz := s.heap.size)
  have h := body p e s m av.toArray below meth c (va_A wc s.heap.size) rfl ⟨B.exec, B.bytes, hml, hown', fun w hw => hts w (List.mem_cons_of_mem _ hw), hK, fun q hq => Or.inr hq⟩ B.returns B.notSynchronized (name_of_methodNamed B.named B.method).1
  rw [lg_entry_eq]
  exact h s.heap [] _ (by rw [List.flatten_singleton]; exact hP) (by rw [List.flatten_singleton]; exact hD) va_S.rf (zl_entry av nL hcat hlen)
theorem zj_fin {Qu : Option Value → va_W → Prop} {v : Option Value} {H : Heap} {locs : List Loc} (hP : va_P G.1 vwCl bs.flatten H) (hD : va_D A bs.flatten) (hS : va_S A s.heap H locs) (hq : Qu v bs.flatten) {t : State} (ht : t.heap = H) : (∃ (v' : Option Value) (w1 : va_W), Outcome.returned v = .returned v' ∧ Qu v' w1 ∧ va_P G.1 vwCl w1 t.heap ∧ va_D A w1) ∧ va_F A s t := ⟨⟨v, bs.flatten, rfl, hq, by rw [ht]; exact hP, hD⟩, hS.F ht⟩

theorem zj_iret {Qu : Option Value → va_W → Prop} {v : Int32} (C : zC p s m args c cc own nL G A) (hr : meth.sig.returnType = some .int) (hlocks : meth.locks = false) (hd : decode cc pc = .ok (.ireturn, 1)) (hq : Qu (some (.int v)) bs.flatten) : Zj p l e R s m args below meth c G A cells slots (MQ below (fun _ st oc t => (∃ (v : Option Value) (w1 : va_W), oc = .returned v ∧ Qu v w1 ∧ va_P G.1 vwCl w1 t.heap ∧ va_D A w1) ∧ va_F A st t) args s cells slots A) bs lo pc [.int v] := by
  intro H locs ls hP hD hS hl
  exact W.iret C.1 C.2.1 hr (fun t ht hW => zj_fin hP hD hS hq ht) hS.2.2 hd hlocks
theorem zj_zret {Qu : Option Value → va_W → Prop} {v : Int32} (C : zC p s m args c cc own nL G A) (hr : meth.sig.returnType = some .boolean) (hlocks : meth.locks = false) (hd : decode cc pc = .ok (.ireturn, 1)) (hz : v = 0 ∨ v = 1) (hq : Qu (some (.int v)) bs.flatten) : Zj p l e R s m args below meth c G A cells slots (MQ below (fun _ st oc t => (∃ (v : Option Value) (w1 : va_W), oc = .returned v ∧ Qu v w1 ∧ va_P G.1 vwCl w1 t.heap ∧ va_D A w1) ∧ va_F A st t) args s cells slots A) bs lo pc [.int v] := by
  intro H locs ls hP hD hS hl
  exact W.zret C.1 C.2.1 hr (by rcases hz with rfl | rfl <;> rfl) (fun t ht hW => zj_fin hP hD hS hq ht) hS.2.2 hd hlocks
theorem zj_fret {Qu : Option Value → va_W → Prop} {v : UInt32} (C : zC p s m args c cc own nL G A) (hr : meth.sig.returnType = some .float) (hlocks : meth.locks = false) (hd : decode cc pc = .ok (.freturn, 1)) (hq : Qu (some (.float v)) bs.flatten) : Zj p l e R s m args below meth c G A cells slots (MQ below (fun _ st oc t => (∃ (v : Option Value) (w1 : va_W), oc = .returned v ∧ Qu v w1 ∧ va_P G.1 vwCl w1 t.heap ∧ va_D A w1) ∧ va_F A st t) args s cells slots A) bs lo pc [.float v] := by
  intro H locs ls hP hD hS hl
  exact W.fret C.1 C.2.1 hr (fun t ht hW => zj_fin hP hD hS hq ht) hS.2.2 hd hlocks
theorem zj_vret {Qu : Option Value → va_W → Prop} (C : zC p s m args c cc own nL G A) (hr : meth.sig.returnType = none) (hlocks : meth.locks = false) (hd : decode cc pc = .ok (.return_, 1)) (hq : Qu none bs.flatten) : Zj p l e R s m args below meth c G A cells slots (MQ below (fun _ st oc t => (∃ (v : Option Value) (w1 : va_W), oc = .returned v ∧ Qu v w1 ∧ va_P G.1 vwCl w1 t.heap ∧ va_D A w1) ∧ va_F A st t) args s cells slots A) bs lo pc [] := by
  intro H locs ls hP hD hS hl
  exact W.vret C.1 C.2.1 hr (fun t ht hW => zj_fin hP hD hS hq ht) hS.2.2 hd hlocks
theorem zj_iconst {n : Int} {v : Int32} (C : zC p s m args c cc own nL G A) (hd : decode cc pc = .ok (.iconst n, 1)) (hv : Int32.ofInt n = v) (k : Zj p l e R s m args below meth c G A cells slots Q bs lo (pc + 1) (.int v :: st)) : Zj p l e R s m args below meth c G A cells slots Q bs lo pc (st) := fun H locs ls hP hD hS hl => lv_iconst C.1 C.2.1 hd hv (k H locs ls hP hD hS hl)
theorem zj_bipush {n : Int} {v : Int32} (C : zC p s m args c cc own nL G A) (hd : decode cc pc = .ok (.bipush n, 2)) (hv : (Int8.ofInt n).toInt32 = v) (k : Zj p l e R s m args below meth c G A cells slots Q bs lo (pc + 2) (.int v :: st)) : Zj p l e R s m args below meth c G A cells slots Q bs lo pc (st) := fun H locs ls hP hD hS hl => lv_bipush C.1 C.2.1 hd hv (k H locs ls hP hD hS hl)
theorem zj_sipush {n : Int} {v : Int32} (C : zC p s m args c cc own nL G A) (hd : decode cc pc = .ok (.sipush n, 3)) (hv : (Int16.ofInt n).toInt32 = v) (k : Zj p l e R s m args below meth c G A cells slots Q bs lo (pc + 3) (.int v :: st)) : Zj p l e R s m args below meth c G A cells slots Q bs lo pc (st) := fun H locs ls hP hD hS hl => lv_sipush C.1 C.2.1 hd hv (k H locs ls hP hD hS hl)
theorem zj_ldc {i : Nat} {v : Int32} (C : zC p s m args c cc own nL G A) (hd : decode cc pc = .ok (.ldc i, 2)) (hw : Jvm.Cond.constant own i v ∈ aw) (k : Zj p l e R s m args below meth c G A cells slots Q bs lo (pc + 2) (.int v :: st)) : Zj p l e R s m args below meth c G A cells slots Q bs lo pc (st) := fun H locs ls hP hD hS hl => lv_ldc C.1 C.2.1 C.2.2.2.1 (C.2.2.2.2.1 _ hw) hd (k H locs ls hP hD hS hl)
theorem zj_iload_n {k0 : Fin 4} {x : Int32} (C : zC p s m args c cc own nL G A) (hd : decode cc pc = .ok (.iload_n k0, 1)) (hi : lo[(k0 : Nat)]? = some (some (.int x))) (k : Zj p l e R s m args below meth c G A cells slots Q bs lo (pc + 1) (.int x :: st)) : Zj p l e R s m args below meth c G A cells slots Q bs lo pc (st) := fun H locs ls hP hD hS hl => lv_iload_n C.1 C.2.1 hd rfl (hl.2.2 _ _ hi).1 (k H locs ls hP hD hS hl)
theorem zj_iload {i : Nat} {x : Int32} (C : zC p s m args c cc own nL G A) (hd : decode cc pc = .ok (.iload i, 2)) (hi : lo[i]? = some (some (.int x))) (k : Zj p l e R s m args below meth c G A cells slots Q bs lo (pc + 2) (.int x :: st)) : Zj p l e R s m args below meth c G A cells slots Q bs lo pc (st) := fun H locs ls hP hD hS hl => lv_iload C.1 C.2.1 hd (hl.2.2 _ _ hi).1 (k H locs ls hP hD hS hl)
theorem zj_aload_n {k0 : Fin 4} {x : Nat} (C : zC p s m args c cc own nL G A) (hd : decode cc pc = .ok (.aload_n k0, 1)) (hi : lo[(k0 : Nat)]? = some (some (.ref x))) (k : Zj p l e R s m args below meth c G A cells slots Q bs lo (pc + 1) (.ref x :: st)) : Zj p l e R s m args below meth c G A cells slots Q bs lo pc (st) := fun H locs ls hP hD hS hl => lv_aload_n C.1 C.2.1 hd rfl (hl.2.2 _ _ hi).1 (k H locs ls hP hD hS hl)
theorem zj_iadd {x y : Int32} (C : zC p s m args c cc own nL G A) (hd : decode cc pc = .ok (.iadd, 1)) (k : Zj p l e R s m args below meth c G A cells slots Q bs lo (pc + 1) (.int (x + y) :: st)) : Zj p l e R s m args below meth c G A cells slots Q bs lo pc (.int y :: .int x :: st) := fun H locs ls hP hD hS hl => lv_iadd C.1 C.2.1 hd (k H locs ls hP hD hS hl)
theorem zj_isub {x y : Int32} (C : zC p s m args c cc own nL G A) (hd : decode cc pc = .ok (.isub, 1)) (k : Zj p l e R s m args below meth c G A cells slots Q bs lo (pc + 1) (.int (x - y) :: st)) : Zj p l e R s m args below meth c G A cells slots Q bs lo pc (.int y :: .int x :: st) := fun H locs ls hP hD hS hl => lv_isub C.1 C.2.1 hd (k H locs ls hP hD hS hl)
theorem zj_imul {x y : Int32} (C : zC p s m args c cc own nL G A) (hd : decode cc pc = .ok (.imul, 1)) (k : Zj p l e R s m args below meth c G A cells slots Q bs lo (pc + 1) (.int (x * y) :: st)) : Zj p l e R s m args below meth c G A cells slots Q bs lo pc (.int y :: .int x :: st) := fun H locs ls hP hD hS hl => lv_imul C.1 C.2.1 hd (k H locs ls hP hD hS hl)
theorem zj_iand {x y : Int32} (C : zC p s m args c cc own nL G A) (hd : decode cc pc = .ok (.iand, 1)) (k : Zj p l e R s m args below meth c G A cells slots Q bs lo (pc + 1) (.int (x &&& y) :: st)) : Zj p l e R s m args below meth c G A cells slots Q bs lo pc (.int y :: .int x :: st) := fun H locs ls hP hD hS hl => lv_iand C.1 C.2.1 hd (k H locs ls hP hD hS hl)
theorem zj_ior {x y : Int32} (C : zC p s m args c cc own nL G A) (hd : decode cc pc = .ok (.ior, 1)) (k : Zj p l e R s m args below meth c G A cells slots Q bs lo (pc + 1) (.int (x ||| y) :: st)) : Zj p l e R s m args below meth c G A cells slots Q bs lo pc (.int y :: .int x :: st) := fun H locs ls hP hD hS hl => lv_ior C.1 C.2.1 hd (k H locs ls hP hD hS hl)
theorem zj_idiv {x y : Int32} (C : zC p s m args c cc own nL G A) (hd : decode cc pc = .ok (.idiv, 1)) (hne : ¬ y = 0) (k : Zj p l e R s m args below meth c G A cells slots Q bs lo (pc + 1) (.int (x / y) :: st)) : Zj p l e R s m args below meth c G A cells slots Q bs lo pc (.int y :: .int x :: st) := fun H locs ls hP hD hS hl => lv_idiv C.1 C.2.1 hd hne (k H locs ls hP hD hS hl)
theorem zj_irem {x y : Int32} (C : zC p s m args c cc own nL G A) (hd : decode cc pc = .ok (.irem, 1)) (hne : ¬ y = 0) (k : Zj p l e R s m args below meth c G A cells slots Q bs lo (pc + 1) (.int (x - x / y * y) :: st)) : Zj p l e R s m args below meth c G A cells slots Q bs lo pc (.int y :: .int x :: st) := fun H locs ls hP hD hS hl => lv_irem C.1 C.2.1 hd hne (k H locs ls hP hD hS hl)
theorem zj_ishl {x y : Int32} (C : zC p s m args c cc own nL G A) (hd : decode cc pc = .ok (.ishl, 1)) (k : Zj p l e R s m args below meth c G A cells slots Q bs lo (pc + 1) (.int (x <<< (y &&& 31)) :: st)) : Zj p l e R s m args below meth c G A cells slots Q bs lo pc (.int y :: .int x :: st) := fun H locs ls hP hD hS hl => lv_ishl C.1 C.2.1 hd (k H locs ls hP hD hS hl)
theorem zj_ishr {x y : Int32} (C : zC p s m args c cc own nL G A) (hd : decode cc pc = .ok (.ishr, 1)) (k : Zj p l e R s m args below meth c G A cells slots Q bs lo (pc + 1) (.int (x >>> (y &&& 31)) :: st)) : Zj p l e R s m args below meth c G A cells slots Q bs lo pc (.int y :: .int x :: st) := fun H locs ls hP hD hS hl => lv_ishr C.1 C.2.1 hd (k H locs ls hP hD hS hl)
theorem zj_i2c {x : Int32} (C : zC p s m args c cc own nL G A) (hd : decode cc pc = .ok (.i2c, 1)) (k : Zj p l e R s m args below meth c G A cells slots Q bs lo (pc + 1) (.int ((x.toUInt32 % 65536).toInt32) :: st)) : Zj p l e R s m args below meth c G A cells slots Q bs lo pc (.int x :: st) := fun H locs ls hP hD hS hl => lv_i2c C.1 C.2.1 hd rfl (k H locs ls hP hD hS hl)
theorem zj_dup {v : Value} (C : zC p s m args c cc own nL G A) (hd : decode cc pc = .ok (.dup, 1)) (hc : v.category = 1) (k : Zj p l e R s m args below meth c G A cells slots Q bs lo (pc + 1) (v :: v :: st)) : Zj p l e R s m args below meth c G A cells slots Q bs lo pc (v :: st) := fun H locs ls hP hD hS hl => lv_dup C.1 C.2.1 hd hc (k H locs ls hP hD hS hl)
theorem zj_pop {v : Value} (C : zC p s m args c cc own nL G A) (hd : decode cc pc = .ok (.pop, 1)) (hc : v.category = 1) (k : Zj p l e R s m args below meth c G A cells slots Q bs lo (pc + 1) (st)) : Zj p l e R s m args below meth c G A cells slots Q bs lo pc (v :: st) := fun H locs ls hP hD hS hl => lv_pop C.1 C.2.1 hd hc (k H locs ls hP hD hS hl)
theorem zj_dup2 {v w : Value} (C : zC p s m args c cc own nL G A) (hd : decode cc pc = .ok (.dup2, 1)) (hc : v.category = 1) (hc2 : w.category = 1) (k : Zj p l e R s m args below meth c G A cells slots Q bs lo (pc + 1) (v :: w :: v :: w :: st)) : Zj p l e R s m args below meth c G A cells slots Q bs lo pc (v :: w :: st) := fun H locs ls hP hD hS hl => lv_dup2_11 C.1 C.2.1 hd hc hc2 (k H locs ls hP hD hS hl)
theorem zj_istore_n {k0 : Fin 4} {x : Int32} (C : zC p s m args c cc own nL G A) (hd : decode cc pc = .ok (.istore_n k0, 1)) (hi : (k0 : Nat) < lo.length) (k : Zj p l e R s m args below meth c G A cells slots Q bs (lo.set (k0 : Nat) (some (.int x))) (pc + 1) st) : Zj p l e R s m args below meth c G A cells slots Q bs lo pc (.int x :: st) := fun H locs ls hP hD hS hl => lv_istore_n C.1 C.2.1 hd rfl (zl_has hl) hi rfl (fun ls' hl' => k H locs ls' hP hD hS (zl_set hl hi rfl hl'))
theorem zj_istore {i : Nat} {x : Int32} (C : zC p s m args c cc own nL G A) (hd : decode cc pc = .ok (.istore i, 2)) (hi : i < lo.length) (k : Zj p l e R s m args below meth c G A cells slots Q bs (lo.set i (some (.int x))) (pc + 2) st) : Zj p l e R s m args below meth c G A cells slots Q bs lo pc (.int x :: st) := fun H locs ls hP hD hS hl => lv_istore C.1 C.2.1 hd (zl_has hl) hi rfl (fun ls' hl' => k H locs ls' hP hD hS (zl_set hl hi rfl hl'))
theorem zj_astore_n {k0 : Fin 4} {x : Nat} (C : zC p s m args c cc own nL G A) (hd : decode cc pc = .ok (.astore_n k0, 1)) (hi : (k0 : Nat) < lo.length) (k : Zj p l e R s m args below meth c G A cells slots Q bs (lo.set (k0 : Nat) (some (.ref x))) (pc + 1) st) : Zj p l e R s m args below meth c G A cells slots Q bs lo pc (.ref x :: st) := fun H locs ls hP hD hS hl => lv_astore_n C.1 C.2.1 hd rfl (zl_has hl) hi rfl (fun ls' hl' => k H locs ls' hP hD hS (zl_set hl hi rfl hl'))
theorem zj_iinc {i : Nat} {n : Int} {x v : Int32} (C : zC p s m args c cc own nL G A) (hd : decode cc pc = .ok (.iinc i n, 3)) (hi : lo[i]? = some (some (.int x))) (hv : x + Int32.ofInt n = v) (k : Zj p l e R s m args below meth c G A cells slots Q bs (lo.set i (some (.int v))) (pc + 3) st) : Zj p l e R s m args below meth c G A cells slots Q bs lo pc st := fun H locs ls hP hD hS hl => by
  have hm : (i, Value.int x) ∈ zasc lo := za_mem.mpr hi
  obtain ⟨k0, hk0⟩ := List.getElem?_of_mem hm
  have hn : i < lo.length := (List.getElem?_eq_some_iff.mp hi).1
  exact lv_iinc C.1 C.2.1 hd (zl_has hl) hk0 hv hn rfl (fun ls' hl' => k H locs ls' hP hD hS (zl_set hl hn rfl hl'))
theorem zj_if_eq {off : Int} {x : Int32} (tgt : Nat) (C : zC p s m args c cc own nL G A) (hd : decode cc pc = .ok (.ifCond .eq off, 3)) (ht : (pc : Int) + off = (tgt : Int)) (kt : x = 0 → Zj p l e R s m args below meth c G A cells slots Q bs lo tgt st) (kf : ¬ x = 0 → Zj p l e R s m args below meth c G A cells slots Q bs lo (pc + 3) st) : Zj p l e R s m args below meth c G A cells slots Q bs lo pc (.int x :: st) := fun H locs ls hP hD hS hl => lv_if_eq C.1 C.2.1 hd ht (fun h => kt h H locs ls hP hD hS hl) (fun h => kf h H locs ls hP hD hS hl)
theorem zj_if_ne {off : Int} {x : Int32} (tgt : Nat) (C : zC p s m args c cc own nL G A) (hd : decode cc pc = .ok (.ifCond .ne off, 3)) (ht : (pc : Int) + off = (tgt : Int)) (kt : ¬ x = 0 → Zj p l e R s m args below meth c G A cells slots Q bs lo tgt st) (kf : x = 0 → Zj p l e R s m args below meth c G A cells slots Q bs lo (pc + 3) st) : Zj p l e R s m args below meth c G A cells slots Q bs lo pc (.int x :: st) := fun H locs ls hP hD hS hl => lv_if_ne C.1 C.2.1 hd ht (fun h => kt h H locs ls hP hD hS hl) (fun h => kf h H locs ls hP hD hS hl)
theorem zj_if_lt {off : Int} {x : Int32} (tgt : Nat) (C : zC p s m args c cc own nL G A) (hd : decode cc pc = .ok (.ifCond .lt off, 3)) (ht : (pc : Int) + off = (tgt : Int)) (kt : x < 0 → Zj p l e R s m args below meth c G A cells slots Q bs lo tgt st) (kf : ¬ x < 0 → Zj p l e R s m args below meth c G A cells slots Q bs lo (pc + 3) st) : Zj p l e R s m args below meth c G A cells slots Q bs lo pc (.int x :: st) := fun H locs ls hP hD hS hl => lv_if_lt C.1 C.2.1 hd ht (fun h => kt h H locs ls hP hD hS hl) (fun h => kf h H locs ls hP hD hS hl)
theorem zj_if_le {off : Int} {x : Int32} (tgt : Nat) (C : zC p s m args c cc own nL G A) (hd : decode cc pc = .ok (.ifCond .le off, 3)) (ht : (pc : Int) + off = (tgt : Int)) (kt : x ≤ 0 → Zj p l e R s m args below meth c G A cells slots Q bs lo tgt st) (kf : ¬ x ≤ 0 → Zj p l e R s m args below meth c G A cells slots Q bs lo (pc + 3) st) : Zj p l e R s m args below meth c G A cells slots Q bs lo pc (.int x :: st) := fun H locs ls hP hD hS hl => lv_if_le C.1 C.2.1 hd ht (fun h => kt h H locs ls hP hD hS hl) (fun h => kf h H locs ls hP hD hS hl)
theorem zj_if_gt {off : Int} {x : Int32} (tgt : Nat) (C : zC p s m args c cc own nL G A) (hd : decode cc pc = .ok (.ifCond .gt off, 3)) (ht : (pc : Int) + off = (tgt : Int)) (kt : 0 < x → Zj p l e R s m args below meth c G A cells slots Q bs lo tgt st) (kf : ¬ 0 < x → Zj p l e R s m args below meth c G A cells slots Q bs lo (pc + 3) st) : Zj p l e R s m args below meth c G A cells slots Q bs lo pc (.int x :: st) := fun H locs ls hP hD hS hl => lv_if_gt C.1 C.2.1 hd ht (fun h => kt h H locs ls hP hD hS hl) (fun h => kf h H locs ls hP hD hS hl)
theorem zj_icmp_eq {off : Int} {x y : Int32} (tgt : Nat) (C : zC p s m args c cc own nL G A) (hd : decode cc pc = .ok (.if_icmp .eq off, 3)) (ht : (pc : Int) + off = (tgt : Int)) (kt : x = y → Zj p l e R s m args below meth c G A cells slots Q bs lo tgt st) (kf : ¬ x = y → Zj p l e R s m args below meth c G A cells slots Q bs lo (pc + 3) st) : Zj p l e R s m args below meth c G A cells slots Q bs lo pc (.int y :: .int x :: st) := fun H locs ls hP hD hS hl => lv_icmp_eq C.1 C.2.1 hd ht (fun h => kt h H locs ls hP hD hS hl) (fun h => kf h H locs ls hP hD hS hl)
theorem zj_icmp_ne {off : Int} {x y : Int32} (tgt : Nat) (C : zC p s m args c cc own nL G A) (hd : decode cc pc = .ok (.if_icmp .ne off, 3)) (ht : (pc : Int) + off = (tgt : Int)) (kt : ¬ x = y → Zj p l e R s m args below meth c G A cells slots Q bs lo tgt st) (kf : x = y → Zj p l e R s m args below meth c G A cells slots Q bs lo (pc + 3) st) : Zj p l e R s m args below meth c G A cells slots Q bs lo pc (.int y :: .int x :: st) := fun H locs ls hP hD hS hl => lv_icmp_ne C.1 C.2.1 hd ht (fun h => kt h H locs ls hP hD hS hl) (fun h => kf h H locs ls hP hD hS hl)
theorem zj_icmp_lt {off : Int} {x y : Int32} (tgt : Nat) (C : zC p s m args c cc own nL G A) (hd : decode cc pc = .ok (.if_icmp .lt off, 3)) (ht : (pc : Int) + off = (tgt : Int)) (kt : x < y → Zj p l e R s m args below meth c G A cells slots Q bs lo tgt st) (kf : ¬ x < y → Zj p l e R s m args below meth c G A cells slots Q bs lo (pc + 3) st) : Zj p l e R s m args below meth c G A cells slots Q bs lo pc (.int y :: .int x :: st) := fun H locs ls hP hD hS hl => lv_icmp_lt C.1 C.2.1 hd ht (fun h => kt h H locs ls hP hD hS hl) (fun h => kf h H locs ls hP hD hS hl)
theorem zj_icmp_le {off : Int} {x y : Int32} (tgt : Nat) (C : zC p s m args c cc own nL G A) (hd : decode cc pc = .ok (.if_icmp .le off, 3)) (ht : (pc : Int) + off = (tgt : Int)) (kt : x ≤ y → Zj p l e R s m args below meth c G A cells slots Q bs lo tgt st) (kf : ¬ x ≤ y → Zj p l e R s m args below meth c G A cells slots Q bs lo (pc + 3) st) : Zj p l e R s m args below meth c G A cells slots Q bs lo pc (.int y :: .int x :: st) := fun H locs ls hP hD hS hl => lv_icmp_le C.1 C.2.1 hd ht (fun h => kt h H locs ls hP hD hS hl) (fun h => kf h H locs ls hP hD hS hl)
theorem zj_icmp_gt {off : Int} {x y : Int32} (tgt : Nat) (C : zC p s m args c cc own nL G A) (hd : decode cc pc = .ok (.if_icmp .gt off, 3)) (ht : (pc : Int) + off = (tgt : Int)) (kt : y < x → Zj p l e R s m args below meth c G A cells slots Q bs lo tgt st) (kf : ¬ y < x → Zj p l e R s m args below meth c G A cells slots Q bs lo (pc + 3) st) : Zj p l e R s m args below meth c G A cells slots Q bs lo pc (.int y :: .int x :: st) := fun H locs ls hP hD hS hl => lv_icmp_gt C.1 C.2.1 hd ht (fun h => kt h H locs ls hP hD hS hl) (fun h => kf h H locs ls hP hD hS hl)
theorem zj_icmp_ge {off : Int} {x y : Int32} (tgt : Nat) (C : zC p s m args c cc own nL G A) (hd : decode cc pc = .ok (.if_icmp .ge off, 3)) (ht : (pc : Int) + off = (tgt : Int)) (kt : y ≤ x → Zj p l e R s m args below meth c G A cells slots Q bs lo tgt st) (kf : ¬ y ≤ x → Zj p l e R s m args below meth c G A cells slots Q bs lo (pc + 3) st) : Zj p l e R s m args below meth c G A cells slots Q bs lo pc (.int y :: .int x :: st) := fun H locs ls hP hD hS hl => lv_icmp_ge C.1 C.2.1 hd ht (fun h => kt h H locs ls hP hD hS hl) (fun h => kf h H locs ls hP hD hS hl)
theorem zj_goto {off : Int} {tgt : Nat} (C : zC p s m args c cc own nL G A) (hd : decode cc pc = .ok (.goto off, 3)) (ht : (pc : Int) + off = (tgt : Int)) (k : Zj p l e R s m args below meth c G A cells slots Q bs lo tgt st) : Zj p l e R s m args below meth c G A cells slots Q bs lo pc st := fun H locs ls hP hD hS hl => lv_goto C.1 C.2.1 hd ht (k H locs ls hP hD hS hl)
def bI (b : Bool) : Int32 := if b then 1 else 0
theorem zj_ifb_eq {off : Int} {b : Bool} (tgt : Nat) (C : zC p s m args c cc own nL G A) (hd : decode cc pc = .ok (.ifCond .eq off, 3)) (ht : (pc : Int) + off = (tgt : Int)) (kt : b = false → Zj p l e R s m args below meth c G A cells slots Q bs lo tgt st) (kf : b = true → Zj p l e R s m args below meth c G A cells slots Q bs lo (pc + 3) st) : Zj p l e R s m args below meth c G A cells slots Q bs lo pc (.int (bI b) :: st) := by
  refine zj_if_eq tgt C hd ht (fun h => kt ?_) (fun h => kf ?_) <;> cases b <;> first | rfl | exact absurd h (by decide)
theorem zj_ifb_ne {off : Int} {b : Bool} (tgt : Nat) (C : zC p s m args c cc own nL G A) (hd : decode cc pc = .ok (.ifCond .ne off, 3)) (ht : (pc : Int) + off = (tgt : Int)) (kt : b = true → Zj p l e R s m args below meth c G A cells slots Q bs lo tgt st) (kf : b = false → Zj p l e R s m args below meth c G A cells slots Q bs lo (pc + 3) st) : Zj p l e R s m args below meth c G A cells slots Q bs lo pc (.int (bI b) :: st) := by
  refine zj_if_ne tgt C hd ht (fun h => kt ?_) (fun h => kf ?_) <;> cases b <;> first | rfl | exact absurd h (by decide)
theorem zj_tableIn {dflt a b : Int} {offs : Array Int} {len : Nat} {x : Int32} {off : Int} (tgt : Nat) (C : zC p s m args c cc own nL G A) (hd : decode cc pc = .ok (.tableswitch dflt a b offs, len)) (h1 : ¬ x.toInt < a) (h2 : ¬ b < x.toInt) (ho : offs[(x.toInt - a).toNat]? = some off) (ht : (pc : Int) + off = (tgt : Int)) (k : Zj p l e R s m args below meth c G A cells slots Q bs lo tgt st) : Zj p l e R s m args below meth c G A cells slots Q bs lo pc (.int x :: st) := fun H locs ls hP hD hS hl => lv_tableIn C.1 C.2.1 hd h1 h2 ho ht (k H locs ls hP hD hS hl)
theorem zj_tableOut {dflt a b : Int} {offs : Array Int} {len : Nat} {x : Int32} (tgt : Nat) (C : zC p s m args c cc own nL G A) (hd : decode cc pc = .ok (.tableswitch dflt a b offs, len)) (h : x.toInt < a ∨ b < x.toInt) (ht : (pc : Int) + dflt = (tgt : Int)) (k : Zj p l e R s m args below meth c G A cells slots Q bs lo tgt st) : Zj p l e R s m args below meth c G A cells slots Q bs lo pc (.int x :: st) := fun H locs ls hP hD hS hl => lv_tableOut C.1 C.2.1 hd h ht (k H locs ls hP hD hS hl)
theorem zj_ifnull {off : Int} {x : Nat} (C : zC p s m args c cc own nL G A) (hd : decode cc pc = .ok (.ifnull off, 3)) (k : Zj p l e R s m args below meth c G A cells slots Q bs lo (pc + 3) st) : Zj p l e R s m args below meth c G A cells slots Q bs lo pc (.ref x :: st) := fun H locs ls hP hD hS hl => lv_ifnull C.1 C.2.1 hd (k H locs ls hP hD hS hl)
theorem zj_ifnonnull {off : Int} {x : Nat} (tgt : Nat) (C : zC p s m args c cc own nL G A) (hd : decode cc pc = .ok (.ifnonnull off, 3)) (ht : (pc : Int) + off = (tgt : Int)) (k : Zj p l e R s m args below meth c G A cells slots Q bs lo tgt st) : Zj p l e R s m args below meth c G A cells slots Q bs lo pc (.ref x :: st) := fun H locs ls hP hD hS hl => lv_ifnonnull C.1 C.2.1 hd ht (k H locs ls hP hD hS hl)
theorem zj_getf {ref Cn : String} {T : u_T} {N ci index : Nat} (C : zC p s m args c cc own nL G A) (hin : ∀ w ∈ u_ws Cn T N, w ∈ aw) (hc : vwCl[ci]? = some (Cn, T, N)) (k0 : Nat) (hk : k0 < N) (hw : Cond.fieldLink own index ref (T k0).2.1 (T k0).2.2.1 ∈ aw) (hsame : ∀ x, s.fieldFound? (T k0).1 (T k0).2.1 (T k0).2.2.1 = some x → s.fieldFound? ref (T k0).2.1 (T k0).2.2.1 = some x) (hd : decode cc pc = .ok (.getfield index, 3)) (i : Nat) {a : Nat} {fs : List Value} (hb : bs[i]? = some [(a, .inr (ci, fs))]) {v : Value} (hv : fs[k0]? = some v) (k : Zj p l e R s m args below meth c G A cells slots Q bs lo (pc + 3) (v :: st)) : Zj p l e R s m args below meth c G A cells slots Q bs lo pc (.ref a :: st) := by
  intro H locs ls hP hD hS hl
  obtain ⟨q, h1, -⟩ := zf_at hb
  exact va_get C.1 C.2.1 C.2.2.2.2.1 hin C.2.2.2.1 C.2.2.2.2.2.1.1 hP q h1 hc k0 hk (C.2.2.2.2.1 _ hw) hsame hv hd (k H locs ls hP hD hS hl)
theorem zj_putf {ref Cn : String} {T : u_T} {N ci index : Nat} (C : zC p s m args c cc own nL G A) (hin : ∀ w ∈ u_ws Cn T N, w ∈ aw) (ty0 : Nat → FieldType) (hty : ∀ k, k < N → parseFieldDescriptor (T k).2.2.1 = some (ty0 k)) (hnm : ∀ a, a < N → ∀ b, b < N → a ≠ b → (T a).2.1 ≠ (T b).2.1) (hc : vwCl[ci]? = some (Cn, T, N)) (k0 : Nat) (hk : k0 < N) (hw : Cond.fieldLink own index ref (T k0).2.1 (T k0).2.2.1 ∈ aw) (hsame : ∀ x, s.fieldFound? (T k0).1 (T k0).2.1 (T k0).2.2.1 = some x → s.fieldFound? ref (T k0).2.1 (T k0).2.2.1 = some x) (hfin : (T k0).2.2.2 = false) (hd : decode cc pc = .ok (.putfield index, 3)) (i : Nat) {a : Nat} {fs : List Value} (hb : bs[i]? = some [(a, .inr (ci, fs))]) {v : Value} (hn : narrow (ty0 k0) v = v) (hfit : fits (ty0 k0) v = true) (hl0 : k0 < fs.length) (k : Zj p l e R s m args below meth c G A cells slots Q (bs.set i [(a, .inr (ci, fs.set k0 v))]) lo (pc + 3) st) : Zj p l e R s m args below meth c G A cells slots Q bs lo pc (v :: .ref a :: st) := by
  intro H locs ls hP hD hS hl
  obtain ⟨q, h1, h2⟩ := zf_at hb
  refine va_put C.1 C.2.1 C.2.2.2.2.1 hin ty0 hty hnm C.2.2.2.1 C.2.2.2.2.2.1.1 hP hD hS q h1 hc k0 hk (C.2.2.2.2.1 _ hw) hsame hfin (hty k0 hk) hn hfit hl0 hd (fun H1 locs1 hP hD hS => ?_)
  rw [← h2] at hP hD
  exact k H1 locs1 ls hP hD hS hl
theorem zj_putfF {ref Cn : String} {T : u_T} {N ci index : Nat} (C : zC p s m args c cc own nL G A) (hin : ∀ w ∈ u_ws Cn T N, w ∈ aw) (ty0 : Nat → FieldType) (hty : ∀ k, k < N → parseFieldDescriptor (T k).2.2.1 = some (ty0 k)) (hnm : ∀ a, a < N → ∀ b, b < N → a ≠ b → (T a).2.1 ≠ (T b).2.1) (hc : vwCl[ci]? = some (Cn, T, N)) (k0 : Nat) (hk : k0 < N) (hw : Cond.fieldLink own index ref (T k0).2.1 (T k0).2.2.1 ∈ aw) (hsame : ∀ x, s.fieldFound? (T k0).1 (T k0).2.1 (T k0).2.2.1 = some x → s.fieldFound? ref (T k0).2.1 (T k0).2.2.1 = some x) (hfin : (T k0).2.2.2 = true) (hin2 : meth.name = "<init>") (hdecl : (T k0).1 = own) (hd : decode cc pc = .ok (.putfield index, 3)) (i : Nat) {a : Nat} {fs : List Value} (hb : bs[i]? = some [(a, .inr (ci, fs))]) {v : Value} (hn : narrow (ty0 k0) v = v) (hfit : fits (ty0 k0) v = true) (hl0 : k0 < fs.length) (k : Zj p l e R s m args below meth c G A cells slots Q (bs.set i [(a, .inr (ci, fs.set k0 v))]) lo (pc + 3) st) : Zj p l e R s m args below meth c G A cells slots Q bs lo pc (v :: .ref a :: st) := by
  intro H locs ls hP hD hS hl
  obtain ⟨q, h1, h2⟩ := zf_at hb
  refine va_putF C.1 C.2.1 C.2.2.2.2.1 hin ty0 hty hnm C.2.2.2.1 C.2.2.2.2.2.1.1 hP hD hS q h1 hc k0 hk (C.2.2.2.2.1 _ hw) hsame hfin hin2 hdecl (hty k0 hk) hn hfit hl0 hd (fun H1 locs1 hP hD hS => ?_)
  rw [← h2] at hP hD
  exact k H1 locs1 ls hP hD hS hl
theorem zin {x : Int32} {j n : Nat} (hx : x = nI j) (hj : j < n) (hn : n < 2 ^ 31) : vp_in x n ∧ x.toNatClampNeg = j := by
  subst hx
  exact ⟨vp_in_nI hj hn, nI_clamp (by omega)⟩
theorem zj_iald {n : Nat} (j : Nat) (C : zC p s m args c cc own nL G A) (hd : decode cc pc = .ok (.iaload, 1)) (i : Nat) {a : Nat} {f : Nat → Int32} (hb : bs[i]? = some [(a, .inl (G.2 0, n, .inl f))]) {x : Int32} (hx : x = nI j) (hj : j < n) (hn : n < 2 ^ 31) (k : Zj p l e R s m args below meth c G A cells slots Q bs lo (pc + 1) (.int (f j) :: st)) : Zj p l e R s m args below meth c G A cells slots Q bs lo pc (.int x :: .ref a :: st) := by
  intro H locs ls hP hD hS hl
  obtain ⟨q, h1, -⟩ := zf_at hb
  obtain ⟨g1, g2⟩ := zin hx hj hn
  refine va_iald C.1 C.2.1 C.2.2.2.2.2.1.1 hP q 0 h1 rfl g1 hd ?_
  rw [g2]
  exact k H locs ls hP hD hS hl
theorem zj_cald {n : Nat} (j : Nat) (C : zC p s m args c cc own nL G A) (hd : decode cc pc = .ok (.caload, 1)) (i : Nat) {a : Nat} {f : Nat → Int32} (hb : bs[i]? = some [(a, .inl (G.2 1, n, .inl f))]) {x : Int32} (hx : x = nI j) (hj : j < n) (hn : n < 2 ^ 31) (k : Zj p l e R s m args below meth c G A cells slots Q bs lo (pc + 1) (.int (f j) :: st)) : Zj p l e R s m args below meth c G A cells slots Q bs lo pc (.int x :: .ref a :: st) := by
  intro H locs ls hP hD hS hl
  obtain ⟨q, h1, -⟩ := zf_at hb
  obtain ⟨g1, g2⟩ := zin hx hj hn
  refine va_cald C.1 C.2.1 C.2.2.2.2.2.1.1 hP q 1 h1 rfl g1 hd ?_
  rw [g2]
  exact k H locs ls hP hD hS hl
theorem zj_iast {n : Nat} (j : Nat) (C : zC p s m args c cc own nL G A) (hd : decode cc pc = .ok (.iastore, 1)) (i : Nat) {a : Nat} {f : Nat → Int32} (hb : bs[i]? = some [(a, .inl (G.2 0, n, .inl f))]) {x v : Int32} (hx : x = nI j) (hj : j < n) (hn : n < 2 ^ 31) (k : Zj p l e R s m args below meth c G A cells slots Q (bs.set i [(a, .inl (G.2 0, n, .inl (upd f j v)))]) lo (pc + 1) st) : Zj p l e R s m args below meth c G A cells slots Q bs lo pc (.int v :: .int x :: .ref a :: st) := by
  intro H locs ls hP hD hS hl
  obtain ⟨q, h1, h2⟩ := zf_at hb
  obtain ⟨g1, g2⟩ := zin hx hj hn
  refine va_iast C.1 C.2.1 C.2.2.2.2.2.1.1 hP hD hS q 0 h1 rfl g1 hd (fun H1 locs1 hP hD hS => ?_)
  rw [g2, ← h2] at hP hD
  exact k H1 locs1 ls hP hD hS hl
theorem zj_cast {n : Nat} (j : Nat) (C : zC p s m args c cc own nL G A) (hd : decode cc pc = .ok (.castore, 1)) (i : Nat) {a : Nat} {f : Nat → Int32} (hb : bs[i]? = some [(a, .inl (G.2 1, n, .inl f))]) {x v : Int32} (hx : x = nI j) (hj : j < n) (hn : n < 2 ^ 31) (k : Zj p l e R s m args below meth c G A cells slots Q (bs.set i [(a, .inl (G.2 1, n, .inl (upd f j (vp_nar .char v))))]) lo (pc + 1) st) : Zj p l e R s m args below meth c G A cells slots Q bs lo pc (.int v :: .int x :: .ref a :: st) := by
  intro H locs ls hP hD hS hl
  obtain ⟨q, h1, h2⟩ := zf_at hb
  obtain ⟨g1, g2⟩ := zin hx hj hn
  refine va_cast C.1 C.2.1 C.2.2.2.2.2.1.1 hP hD hS q 1 h1 rfl g1 hd (fun H1 locs1 hP hD hS => ?_)
  rw [g2, ← h2] at hP hD
  exact k H1 locs1 ls hP hD hS hl
theorem zj_alen {n t0 : Nat} {y : (Nat → Int32) ⊕ (Nat → Int64) ⊕ (Nat → UInt32) ⊕ (Nat → UInt64) ⊕ (Nat → Option Nat)} (C : zC p s m args c cc own nL G A) (hd : decode cc pc = .ok (.arraylength, 1)) (i : Nat) (ht : t0 < 3) {a : Nat} (hb : bs[i]? = some [(a, .inl (G.2 t0, n, y))]) (k : Zj p l e R s m args below meth c G A cells slots Q bs lo (pc + 1) (.int (nI n) :: st)) : Zj p l e R s m args below meth c G A cells slots Q bs lo pc (.ref a :: st) := by
  intro H locs ls hP hD hS hl
  obtain ⟨q, h1, -⟩ := zf_at hb
  have ht' : ∃ ty, ([(G.2 0, FieldType.int), (G.2 1, .char), (G.2 2, .object "DistrictTotals$Plan")])[t0]? = some (G.2 t0, ty) := by
    match t0, ht with
    | 0, _ => exact ⟨_, rfl⟩
    | 1, _ => exact ⟨_, rfl⟩
    | 2, _ => exact ⟨_, rfl⟩
  obtain ⟨ty, hty⟩ := ht'
  exact va_alen C.1 C.2.1 C.2.2.2.2.2.1.1 hP q t0 h1 hty (v := nI n) rfl hd (k H locs ls hP hD hS hl)
theorem zj_aald {n : Nat} (j : Nat) (C : zC p s m args c cc own nL G A) (hd : decode cc pc = .ok (.aaload, 1)) (i : Nat) {a : Nat} {f : Nat → Option Nat} (hb : bs[i]? = some [(a, .inl (G.2 2, n, .inr (.inr (.inr (.inr f)))))]) {x : Int32} (hx : x = nI j) (hj : j < n) (hn : n < 2 ^ 31) {v : Value} (hv : va_rf (f j) = v) (k : Zj p l e R s m args below meth c G A cells slots Q bs lo (pc + 1) (v :: st)) : Zj p l e R s m args below meth c G A cells slots Q bs lo pc (.int x :: .ref a :: st) := by
  intro H locs ls hP hD hS hl
  obtain ⟨q, h1, -⟩ := zf_at hb
  obtain ⟨g1, g2⟩ := zin hx hj hn
  refine va_aldq C.1 C.2.1 C.2.2.2.2.2.1.1 hP q 2 h1 rfl g1 hd ?_
  rw [g2, hv]
  exact k H locs ls hP hD hS hl
theorem zj_aast {n : Nat} (j : Nat) (C : zC p s m args c cc own nL G A) (hd : decode cc pc = .ok (.aastore, 1)) (i i2 : Nat) {a v : Nat} {f : Nat → Option Nat} {vs : List Value} (hb : bs[i]? = some [(a, .inl (G.2 2, n, .inr (.inr (.inr (.inr f)))))]) (hb2 : ∃ w ∈ bs.flatten, w = (v, .inr (1, vs))) {x : Int32} (hx : x = nI j) (hj : j < n) (hn : n < 2 ^ 31) (k : Zj p l e R s m args below meth c G A cells slots Q (bs.set i [(a, .inl (G.2 2, n, .inr (.inr (.inr (.inr (va_up f j (some v)))))))]) lo (pc + 1) st) : Zj p l e R s m args below meth c G A cells slots Q bs lo pc (.ref v :: .int x :: .ref a :: st) := by
  intro H locs ls hP hD hS hl
  obtain ⟨q, h1, h2⟩ := zf_at hb
  obtain ⟨w, hw, rfl⟩ := hb2
  obtain ⟨qk, hqk⟩ := List.getElem?_of_mem hw
  obtain ⟨g1, g2⟩ := zin hx hj hn
  refine va_astq (r := (RX1, TX1, 3)) C.1 C.2.1 C.2.2.2.2.2.1.1 hP hD hS q 2 qk 1 h1 rfl hqk rfl g1 hd (fun H1 locs1 hP hD hS => ?_)
  rw [g2, ← h2] at hP hD
  exact k H1 locs1 ls hP hD hS hl
theorem z_call {H : Heap} {locs : List Loc} {ls : Array Slot} {rest st0 : List Value} {A1 : Nat → Prop} {mc ms : Nat} {free : Addr → Prop} {Qu : Option Value → va_W → Prop} (hr : va_Run p l e R s m args below meth c H locs cells slots mc ms (F0 m pc ls st0) rest (fun st oc t => (∃ (v : Option Value) (w1 : va_W), oc = .returned v ∧ Qu v w1 ∧ va_P G.1 vwCl w1 t.heap ∧ va_D A1 w1) ∧ va_F A1 st t) free) (hS : va_S A s.heap H locs) (hA : ∀ q, q < H.size → A1 q → A q) (hf : ∀ q, free q → A q)
    (kk : ∀ (v : Option Value) (w1 : va_W) (H1 : Heap) (locs1 : List Loc), Qu v w1 → va_P G.1 vwCl w1 H1 → va_D A1 w1 → (∀ q : Nat, q < H.size → ¬ A1 q → H1[q]? = H[q]?) → va_S A s.heap H1 locs1 → W p l e R s m args below meth c H1 locs1 (cells + mc) (slots + ms) Q (F0 m (pc + 3) ls (v.toList ++ rest))) : W p l e R s m args below meth c H locs cells slots Q (F0 m pc ls st0) := by
  intro T hT X
  obtain ⟨v, st₀, t, T', L, h0, X', hL, e1, e2, ⟨⟨v', w1, hv, hq, hp, hd⟩, hz, hk⟩, st⟩ := hr T hT X
  cases hv
  rw [h0] at hz hk
  obtain ⟨t2, a1, b1⟩ := kk v w1 T'.heap (locs ++ L) hq (by rw [e1]; exact hp) hd (fun q h1 h2 => by rw [e1]; exact hk q h1 h2)
    ⟨Nat.le_trans hS.1 (by rw [e1]; exact hz), fun q h1 h2 => by rw [e1, hk q (Nat.lt_of_lt_of_le h1 hS.1) (fun z => h2 (hA q (Nat.lt_of_lt_of_le h1 hS.1) z))]; exact hS.2.1 q h1 h2, fun q hq => by
      rcases List.mem_append.mp hq with h | h
      · exact hS.2.2 q h
      · exact hf _ (hL q h)⟩ T' rfl X'
  exact ⟨t2, st t2 a1, b1⟩
/-- what a place of a call says: the tables' words for it -/
def zV (own : String) (index : Nat) (y : MethodName) (cy : ByteArray) (maxL : Nat) (rt : Option FieldType) (n : Nat) : Prop := Cond.methodLink own index y ∈ aw ∧ Cond.instanceMethod y ∈ aw ∧ Cond.selects y.cls y y ∈ aw ∧ Cond.initialized y.cls ∈ aw ∧ Cond.code y cy maxL rt ∈ aw ∧ (y.cls ≠ "java/lang/invoke/MethodHandle" ∧ y.cls ≠ "java/lang/invoke/VarHandle" ∧ (parseMethodDescriptor y.desc).map (fun d => d.parameters.length) = some n)
def zI (own : String) (index : Nat) (y : MethodName) (cy : ByteArray) (maxL : Nat) (n : Nat) : Prop := Cond.methodLink own index y ∈ aw ∧ Cond.instanceMethod y ∈ aw ∧ Cond.initialized y.cls ∈ aw ∧ Cond.code y cy maxL none ∈ aw ∧ y.name = "<init>" ∧ (y.cls ≠ "java/lang/invoke/MethodHandle" ∧ y.cls ≠ "java/lang/invoke/VarHandle" ∧ (parseMethodDescriptor y.desc).map (fun d => d.parameters.length) = some n)
def zS (own : String) (index : Nat) (y : MethodName) (cy : ByteArray) (maxL : Nat) (rt : Option FieldType) (n : Nat) : Prop := y.cls = own ∧ Cond.methodLink own index y ∈ aw ∧ Cond.static y ∈ aw ∧ Cond.initialized y.cls ∈ aw ∧ Cond.code y cy maxL rt ∈ aw ∧ (y.cls ≠ "java/lang/invoke/MethodHandle" ∧ y.cls ≠ "java/lang/invoke/VarHandle" ∧ (parseMethodDescriptor y.desc).map (fun d => d.parameters.length) = some n)
theorem z_blind {av : List Value} {sz : Nat} {wc : va_W} : FrameBlind (va_Pc av (fun U => U.heap.size = sz ∧ va_P G.1 vwCl wc U.heap ∧ zK G U ∧ va_D (fun _ => True) wc)) := fun a U g mk q => by
  obtain ⟨q0, q1, qP, qK, qD⟩ := q
  exact ⟨q0, q1, qP, zK_moved (u := U) (U := U.calling g mk a) (Vm.Alike.refl U.vm) qK, qD⟩
theorem zj_callV0 {y : MethodName} {cy : ByteArray} {maxL fr lc mc ms index n : Nat} {rt : Option FieldType} {b : Nat} {As : List Value} {wc : va_W} {Qu : Option Value → va_W → Prop} (C : zC p s m args c cc own nL G A) (hV : zV own index y cy maxL rt n) (hM : zX l G y cy maxL rt fr lc mc ms (.ref b :: As) wc Qu) (hd : decode cc pc = .ok (.invokevirtual index, 3)) (hR : fr + 1 ≤ R.frames ∧ 8 + (maxL + 11) + lc ≤ R.locals) (hn : As.length = n) (hcap : (st.map fun v => v.category).sum ≤ 8) (hcs : cells + mc ≤ R.cells ∧ slots + ms ≤ R.slots) (hnl : lo.length = nL) (is jr : List Nat) (hp : (is ++ jr).isPerm (List.range bs.length) = true) (hC : (zpk bs is).flatten = wc) {ci : Nat} {fs : List Value} {q : vw_C} {k0 : Nat} (hrec : wc[k0]? = some (b, .inr (ci, fs))) (hci : vwCl[ci]? = some q) (hqc : q.1 = y.cls)
    (k : ∀ v w1, Qu v w1 → Zj p l e R s m args below meth c G A (cells + mc) (slots + ms) Q (w1 :: zpk bs jr) lo (pc + 3) (v.toList ++ st)) {st0 : List Value} (hst : st0 = As.reverse ++ .ref b :: st) : Zj p l e R s m args below meth c G A cells slots Q bs lo pc st0 := by
  intro H locs ls hP hD hS hl
  subst hst
  obtain ⟨v1, v2, v3, v4, v5, v6, v7, v8⟩ := hV
  have hperm := zp_perm hp
  rw [hC] at hperm
  have hP2 := zv_permP hperm hP
  have hD2 := zv_permD hperm hD
  have hG : GoodIn aw (wsV own index y.cls y (.code y cy maxL rt :: aw)) := by
    intro w hw
    rcases List.mem_append.mp hw with h | h
    · rcases List.mem_cons.mp h with rfl | h
      · exact aw_good (fun _ h => h) _ v1
      rcases List.mem_cons.mp h with rfl | h
      · exact aw_good (fun _ h => h) _ v2
      rcases List.mem_cons.mp h with rfl | h
      · exact aw_good (fun _ h => h) _ v3
      rcases List.mem_cons.mp h with rfl | h
      · exact aw_good (fun _ h => h) _ v4
      cases h
    · exact aw_goodc (fun _ h => h) v5 w h
  have hPc : va_P G.1 vwCl wc H := zv_mem.mpr fun x hx => zv_mem.mp hP2 x (List.mem_append_left _ hx)
  have hDc : va_D (fun _ => True) wc := by
    have := zv_iff.mp hD2
    rw [List.map_append, List.nodup_append] at this
    exact zv_iff.mpr ⟨this.1.1, fun _ _ => trivial⟩
  have hFc : ∀ x, va_A wc H.size x → A x := by
    intro x hx
    rcases hx with ⟨k0, e0, h0⟩ | h0
    · exact (zv_iff.mp hD2).2 (x, e0) (List.mem_append_left _ (List.mem_of_getElem? h0))
    · exact C.2.2.2.2.2.2 x (Nat.le_trans hS.1 h0)
  refine z_call (A1 := va_A wc H.size) (free := va_A wc H.size) (Qu := Qu) (mc := mc) (ms := ms) (rest := st) (va_runV (C := y.cls) (As := As) (rest := st) (b := b) ⟨C.1, C.2.1, C.2.2.1, C.2.2.2.1, C.2.2.2.2.1⟩ (hM H.size) (cwV n C.2.2.2.2.1 hG rfl rfl rfl ⟨rfl, v6, v7, v8⟩ hR) ⟨z_blind, ?_, fun U hU hW => ⟨rfl, by rw [hU], by rw [hU]; exact hPc, zK_moved hW.alike C.2.2.2.2.2.1, hDc⟩⟩ rfl hn (by rw [hl.1]; exact hnl) rfl (lv_room hcap) hd hcs) hS (fun x _ h => hFc x h) hFc ?_
  · have := va_recv (q := q) C.2.2.2.2.2.1.1 hPc hci (q0 := k0) hrec
    rw [hqc] at this
    exact this
  · intro v w1 H1 locs1 hq hP1 hD1 hk1 hS1
    obtain ⟨hP3, hD3⟩ := z_join hP2 hD2 hk1 hFc hP1 hD1
    exact k v w1 hq H1 locs1 ls hP3 hD3 hS1 hl
theorem zj_callS {y : MethodName} {cy : ByteArray} {maxL fr lc index n : Nat} {rt : Option FieldType} {As : List Value} {Qu : Option Value → va_W → Prop} (C : zC p s m args c cc own nL G A) (hV : zS own index y cy maxL rt n) (hM : zX l G y cy maxL rt fr lc 0 0 As [] Qu) (hd : decode cc pc = .ok (.invokestatic index, 3)) (hR : fr + 1 ≤ R.frames ∧ 8 + (maxL + 11) + lc ≤ R.locals) (hn : As.length = n) (hcap : (st.map fun v => v.category).sum ≤ 8) (hcs : cells ≤ R.cells ∧ slots ≤ R.slots) (hnl : lo.length = nL)
    (k : ∀ v w1, Qu v w1 → Zj p l e R s m args below meth c G A cells slots Q (w1 :: bs) lo (pc + 3) (v.toList ++ st)) {st0 : List Value} (hst : st0 = As.reverse ++ st) : Zj p l e R s m args below meth c G A cells slots Q bs lo pc st0 := by
  intro H locs ls hP hD hS hl
  subst hst
  obtain ⟨v0, v1, v2, v4, v5, v6, v7, v8⟩ := hV
  have hG : GoodIn aw (wsS own index y (.code y cy maxL rt :: aw)) := by
    intro w hw
    rcases List.mem_append.mp hw with h | h
    · rcases List.mem_cons.mp h with rfl | h
      · exact aw_good (fun _ h => h) _ v1
      rcases List.mem_cons.mp h with rfl | h
      · exact aw_good (fun _ h => h) _ v2
      rcases List.mem_cons.mp h with rfl | h
      · rw [← v0]; exact aw_good (fun _ h => h) _ v4
      cases h
    · exact aw_goodc (fun _ h => h) v5 w h
  have hPc : va_P G.1 vwCl [] H := zv_mem.mpr fun x hx => absurd hx List.not_mem_nil
  have hDc : va_D (fun _ => True) [] := zv_iff.mpr ⟨List.nodup_nil, fun x hx => absurd hx List.not_mem_nil⟩
  have hFc : ∀ x, va_A [] H.size x → A x := by
    intro x hx
    rcases hx with ⟨k0, e0, h0⟩ | h0
    · cases h0
    · exact C.2.2.2.2.2.2 x (Nat.le_trans hS.1 h0)
  refine z_call (A1 := va_A [] H.size) (free := va_A [] H.size) (Qu := Qu) (mc := 0) (ms := 0) (rest := st) (va_runS (As := As) (rest := st) ⟨C.1, C.2.1, C.2.2.1, C.2.2.2.1, C.2.2.2.2.1⟩ (hM H.size) (cwS n C.2.2.2.2.1 hG rfl rfl rfl ⟨v0, v6, v7, v8⟩ hR) ⟨z_blind, fun U hU hW => ⟨rfl, by rw [hU], by rw [hU]; exact hPc, zK_moved hW.alike C.2.2.2.2.2.1, hDc⟩⟩ rfl hn (by rw [hl.1]; exact hnl) rfl (lv_room hcap) hd hcs) hS (fun x _ h => hFc x h) hFc ?_
  intro v w1 H1 locs1 hq hP1 hD1 hk1 hS1
  obtain ⟨hP3, hD3⟩ := z_join (wc := []) (rest := bs.flatten) hP hD hk1 hFc hP1 hD1
  exact k v w1 hq H1 locs1 ls hP3 hD3 hS1 hl
theorem zj_callI {y : MethodName} {cy : ByteArray} {maxL fr lc mc ms index n : Nat} {b : Nat} {As : List Value} {wc : va_W} {Qu : Option Value → va_W → Prop} (C : zC p s m args c cc own nL G A) (hV : zI own index y cy maxL n) (hM : zX l G y cy maxL none fr lc mc ms (.ref b :: As) wc Qu) (hd : decode cc pc = .ok (.invokespecial index, 3)) (hR : fr + 1 ≤ R.frames ∧ 8 + (maxL + 11) + lc ≤ R.locals) (hn : As.length = n) (hcap : (st.map fun v => v.category).sum ≤ 8) (hcs : cells + mc ≤ R.cells ∧ slots + ms ≤ R.slots) (hnl : lo.length = nL) (is jr : List Nat) (hp : (is ++ jr).isPerm (List.range bs.length) = true) (hC : (zpk bs is).flatten = wc)
    (k : ∀ v w1, Qu v w1 → Zj p l e R s m args below meth c G A (cells + mc) (slots + ms) Q (w1 :: zpk bs jr) lo (pc + 3) (v.toList ++ st)) {st0 : List Value} (hst : st0 = As.reverse ++ .ref b :: st) : Zj p l e R s m args below meth c G A cells slots Q bs lo pc st0 := by
  intro H locs ls hP hD hS hl
  subst hst
  obtain ⟨v1, v2, v4, v5, v3, v6⟩ := hV
  have hperm := zp_perm hp
  rw [hC] at hperm
  have hP2 := zv_permP hperm hP
  have hD2 := zv_permD hperm hD
  have hPc : va_P G.1 vwCl wc H := zv_mem.mpr fun x hx => zv_mem.mp hP2 x (List.mem_append_left _ hx)
  have hDc : va_D (fun _ => True) wc := by
    have := zv_iff.mp hD2
    rw [List.map_append, List.nodup_append] at this
    exact zv_iff.mpr ⟨this.1.1, fun _ _ => trivial⟩
  have hFc : ∀ x, va_A wc H.size x → A x := by
    intro x hx
    rcases hx with ⟨k0, e0, h0⟩ | h0
    · exact (zv_iff.mp hD2).2 (x, e0) (List.mem_append_left _ (List.mem_of_getElem? h0))
    · exact C.2.2.2.2.2.2 x (Nat.le_trans hS.1 h0)
  refine z_call (A1 := va_A wc H.size) (free := va_A wc H.size) (Qu := Qu) (mc := mc) (ms := ms) (rest := st) (va_runI (As := As) (rest := st) (b := b) ⟨C.1, C.2.1, C.2.2.1, C.2.2.2.1, C.2.2.2.2.1⟩ (hM H.size) (cwI n C.2.2.2.2.1 (aw_goodc (fun _ h => h) v5) rfl rfl rfl (C.2.2.2.2.1 _ v4) (C.2.2.2.2.1 _ v1) (C.2.2.2.2.1 _ v2) v3 v6 hR) ⟨z_blind, fun U hU hW => ⟨rfl, by rw [hU], by rw [hU]; exact hPc, zK_moved hW.alike C.2.2.2.2.2.1, hDc⟩⟩ rfl hn (by rw [hl.1]; exact hnl) rfl (lv_room hcap) hd hcs) hS (fun x _ h => hFc x h) hFc ?_
  intro v w1 H1 locs1 hq hP1 hD1 hk1 hS1
  obtain ⟨hP3, hD3⟩ := z_join hP2 hD2 hk1 hFc hP1 hD1
  exact k v w1 hq H1 locs1 ls hP3 hD3 hS1 hl
theorem zj_mmin {index : Nat} {x y : Int32} (C : zC p s m args c cc own nL G A) (hw : Cond.methodLink own index Lib.Math.min.name ∈ aw) (hw1 : Cond.static Lib.Math.min.name ∈ aw) (hw2 : Cond.initialized "java/lang/Math" ∈ aw) (hw3 : Cond.code Lib.Math.min.name Lib.Math.min.code 2 (some .int) ∈ aw) (hd : decode cc pc = .ok (.invokestatic index, 3)) (hR : 1 ≤ R.frames ∧ 21 ≤ R.locals) (hcap : (st.map fun v => v.category).sum ≤ 8) (hcs : cells ≤ R.cells ∧ slots ≤ R.slots) (hnl : lo.length = nL) (k : Zj p l e R s m args below meth c G A cells slots Q bs lo (pc + 3) (.int (if y < x then y else x) :: st)) : Zj p l e R s m args below meth c G A cells slots Q bs lo pc (.int y :: .int x :: st) := fun H locs ls hP hD hS hl => va_mmin C.1 C.2.1 (by rw [hl.1, hnl]; exact C.2.2.1) C.2.2.2.1 (C.2.2.2.2.1 _ hw) (C.2.2.2.2.1 _ hw1) (C.2.2.2.2.1 _ hw2) (C.2.2.2.2.1 _ hw3) hR.1 (Nat.le_trans (Nat.add_le_add_right hcap 13) hR.2) hcs.1 hcs.2 hd (k H locs ls hP hD hS hl)
theorem zj_mmax {index : Nat} {x y : Int32} (C : zC p s m args c cc own nL G A) (hw : Cond.methodLink own index Lib.Math.max.name ∈ aw) (hw1 : Cond.static Lib.Math.max.name ∈ aw) (hw2 : Cond.initialized "java/lang/Math" ∈ aw) (hw3 : Cond.code Lib.Math.max.name Lib.Math.max.code 2 (some .int) ∈ aw) (hd : decode cc pc = .ok (.invokestatic index, 3)) (hR : 1 ≤ R.frames ∧ 21 ≤ R.locals) (hcap : (st.map fun v => v.category).sum ≤ 8) (hcs : cells ≤ R.cells ∧ slots ≤ R.slots) (hnl : lo.length = nL) (k : Zj p l e R s m args below meth c G A cells slots Q bs lo (pc + 3) (.int (if x < y then y else x) :: st)) : Zj p l e R s m args below meth c G A cells slots Q bs lo pc (.int y :: .int x :: st) := fun H locs ls hP hD hS hl => va_mmax C.1 C.2.1 (by rw [hl.1, hnl]; exact C.2.2.1) C.2.2.2.1 (C.2.2.2.2.1 _ hw) (C.2.2.2.2.1 _ hw1) (C.2.2.2.2.1 _ hw2) (C.2.2.2.2.1 _ hw3) hR.1 (Nat.le_trans (Nat.add_le_add_right hcap 13) hR.2) hcs.1 hcs.2 hd (k H locs ls hP hD hS hl)
/-- System.arraycopy of int rows, from 0 to 0 -/
theorem zj_copyi {index : Nat} (kn : Nat) (C : zC p s m args c cc own nL G A) (hw : Cond.methodLink own index arraycopyName ∈ aw) (hw1 : Cond.native arraycopyName ∈ aw) (hw2 : Cond.static arraycopyName ∈ aw) (hw3 : Cond.initialized "java/lang/System" ∈ aw) (hd : decode cc pc = .ok (.invokestatic index, 3)) (hR : 1 ≤ R.frames ∧ 26 ≤ R.locals) (hcap : (st.map fun v => v.category).sum ≤ 8) (hnl : lo.length = nL) (i0 i1 : Nat) {a0 a1 n0 n1 : Nat} {f g : Nat → Int32} (hb0 : bs[i0]? = some [(a0, .inl (G.2 0, n0, .inl f))]) (hb1 : bs[i1]? = some [(a1, .inl (G.2 0, n1, .inl g))]) {x z0 z1 : Int32} (hz0 : z0 = 0) (hz1 : z1 = 0) (hx : x = nI kn) (h0 : kn ≤ n0) (h1 : kn ≤ n1) (h31 : kn < 2 ^ 31) (k : Zj p l e R s m args below meth c G A cells slots Q (bs.set i1 [(a1, .inl (G.2 0, n1, .inl (va_cpy f g 0 0 kn)))]) lo (pc + 3) st) : Zj p l e R s m args below meth c G A cells slots Q bs lo pc (.int x :: .int z1 :: .ref a1 :: .int z0 :: .ref a0 :: st) := by
  intro H locs ls hP hD hS hl
  subst hz0; subst hz1; subst hx
  obtain ⟨q0, e0, -⟩ := zf_at hb0
  obtain ⟨q1, e1, e2⟩ := zf_at hb1
  have hc : (nI kn).toNatClampNeg = kn := nI_clamp h31
  refine va_copyi C.1 C.2.1 (by rw [hl.1, hnl]; exact C.2.2.1) C.2.2.2.1 (C.2.2.2.2.1 _ hw) (C.2.2.2.2.1 _ hw1) (C.2.2.2.2.1 _ hw2) (C.2.2.2.2.1 _ hw3) C.2.2.2.2.2.1.1 hP hD hS q0 q1 0 0 e0 e1 rfl rfl rfl (by decide) (by decide) (nI_pos h31) (by rw [hc]; show 0 + kn ≤ n0; omega) (by rw [hc]; show 0 + kn ≤ n1; omega) (fun _ _ => rfl) hR.1 (Nat.le_trans (Nat.add_le_add_right hcap _) hR.2) hd (fun H1 locs1 hP hD hS => ?_)
  have hz : (0 : Int32).toNatClampNeg = 0 := by decide
  rw [hc, hz, ← e2] at hP hD
  exact k H1 locs1 ls hP hD hS hl
end ZJ
