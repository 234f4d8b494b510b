/-! A LOGIC FOR THIS CLAIM: one world for all methods. The heap behind the law's start B is a function h of n cells (cell i at the address B + i); kE says: from this frame, with this heap, the machine comes to a return whose answer and heap satisfy Post. -/
abbrev kC : Type := (Nat × vp_A) ⊕ (Nat × List Value)
/-- B, the classes' numbers and slots, the array classes' numbers, the tables' addresses (length and contents), the four statics' addresses -/
abbrev kG : Type := Nat × va_G × (Nat → ClassId) × List (Nat × Nat × (Nat → Int32)) × (Nat → Nat)
def gB (G : kG) : Nat := G.1
def gD (G : kG) : va_G := G.2.1
def gC (G : kG) : Nat → ClassId := G.2.2.1
def gT (G : kG) : List (Nat × Nat × (Nat → Int32)) := G.2.2.2.1
def gS (G : kG) : Nat → Nat := G.2.2.2.2
def kcc (cA : Nat → ClassId) : kC → va_E
  | .inl (t, a) => .inl (cA t, a)
  | .inr o => .inr o
def ktys (cA : Nat → ClassId) : List (ClassId × FieldType) := [(cA 0, .int), (cA 1, .long), (cA 2, .boolean), (cA 3, .object "KingsInches$Book"), (cA 4, .object "KingsInches$Holding"), (cA 5, .array .int)]
def kA (G : kG) : Nat → Prop := fun q => gB G ≤ q
def kup (h : Nat → Option kC) (i : Nat) (e : kC) : Nat → Option kC := fun j => if j = i then some e else h j
theorem kup_s {h : Nat → Option kC} {i : Nat} {e : kC} : kup h i e i = some e := if_pos rfl
theorem kup_n {h : Nat → Option kC} {i j : Nat} {e : kC} {x : Option kC} (hne : j ≠ i) (hx : h j = x) : kup h i e j = x := by rw [kup, if_neg hne]; exact hx
def kHV (G : kG) (h : Nat → Option kC) (n : Nat) (H : Heap) : Prop := H.size = gB G + n ∧ ∀ (i : Nat) (e : kC), h i = some e → i < n ∧ va_at (gD G) vwCl (gB G + i, kcc (gC G) e) H
theorem kHV.at {G : kG} {h : Nat → Option kC} {n : Nat} {H : Heap} (hH : kHV G h n H) {i : Nat} {e : kC} (he : h i = some e) : va_at (gD G) vwCl (gB G + i, kcc (gC G) e) H := (hH.2 i e he).2
theorem kHV.set {G : kG} {h : Nat → Option kC} {n : Nat} {H H1 : Heap} (hH : kHV G h n H) {i : Nat} {e e' : kC} (he : h i = some e) (z : H1.size = H.size) (o : ∀ q : Nat, q ≠ gB G + i → H1[q]? = H[q]?) (hn : va_at (gD G) vwCl (gB G + i, kcc (gC G) e') H1) : kHV G (kup h i e') n H1 := by
  refine ⟨z.trans hH.1, fun j x hx => ?_⟩
  by_cases hj : j = i
  · subst hj
    rw [kup_s] at hx
    cases hx
    exact ⟨(hH.2 _ _ he).1, hn⟩
  · rw [kup, if_neg hj] at hx
    exact ⟨(hH.2 _ _ hx).1, (hH.2 _ _ hx).2.kept (o _ (by show gB G + j ≠ _; omega))⟩
theorem kHV.push {G : kG} {h : Nat → Option kC} {n : Nat} {H H1 : Heap} (hH : kHV G h n H) {e' : kC} (z : H1.size = H.size + 1) (o : ∀ q : Nat, q < H.size → H1[q]? = H[q]?) (hn : va_at (gD G) vwCl (gB G + n, kcc (gC G) e') H1) : kHV G (kup h n e') (n + 1) H1 := by
  have hs := hH.1
  refine ⟨by omega, fun j x hx => ?_⟩
  by_cases hj : j = n
  · subst hj
    rw [kup_s] at hx
    cases hx
    exact ⟨Nat.lt_succ_self _, hn⟩
  · rw [kup, if_neg hj] at hx
    have h1 := hH.2 _ _ hx
    exact ⟨by omega, h1.2.kept (o _ (by show gB G + j < _; omega))⟩
/-- an int array that nobody writes, below B -/
def kTab (G : kG) (t N : Nat) (f : Nat → Int32) (U : State) (H : Heap) : Prop := ∃ cell : Cell, H[t]? = some cell ∧ t < gB G ∧ U.isArrayOf cell .int ∧ cell.vm ≠ .unknown ∧ cell.slots.size = N ∧ N < 2 ^ 31 ∧ ∀ j : Nat, j < N → cell.slots[j]? = some (.int (f j))
theorem kTab.moved {G : kG} {t N : Nat} {f : Nat → Int32} {u U : State} {H : Heap} (hvm : u.vm.Alike U.vm) (h : kTab G t N f u H) : kTab G t N f U H := by
  obtain ⟨cell, h1, h2, h3, h4⟩ := h
  exact ⟨cell, h1, h2, State.isArrayOf_alike hvm h3, h4⟩
theorem kTab.kept {G : kG} {t N : Nat} {f : Nat → Int32} {U : State} {H H1 : Heap} (h : kTab G t N f U H) (hq : ∀ q : Nat, q < gB G → H1[q]? = H[q]?) : kTab G t N f U H1 := by
  obtain ⟨cell, h1, h2, h3⟩ := h
  exact ⟨cell, by rw [hq t h2]; exact h1, h2, h3⟩
def kSn : List String := ["MOST_WAY", "FIRST_ENTRY", "LEAST_ENTRY", "MOST_ENTRY"]
/-- what every method of ours finds at its start -/
def kPre (G : kG) (U : State) : Prop := (∀ w ∈ kNst, va_Nw w U) ∧ va_K (gD G) vwCl (ktys (gC G)) U ∧ (∀ (k : Nat) (q : Nat × Nat × (Nat → Int32)), (gT G)[k]? = some q → kTab G q.1 q.2.1 q.2.2 U U.heap) ∧ (∀ (k : Nat) (nm : String), kSn[k]? = some nm → va_Z RX9 nm "[I" (.ref (gS G k)) (kA G) U U.heap) ∧ (∃ cell : Cell, U.heap[gS G 1]? = some cell ∧ gS G 1 < gB G ∧ cell.cls = gC G 0 ∧ cell.vm.isStatics = false) ∧ gB G ≤ U.heap.size
theorem kNst_same {u U : State} (hvm : u.vm = U.vm) (h : ∀ w ∈ kNst, va_Nw w u) : ∀ w ∈ kNst, va_Nw w U := by
  have ha : u.vm.Alike U.vm := by rw [hvm]; exact Vm.Alike.refl _
  intro w hw
  have h0 := h w hw
  simp only [kNst, List.mem_cons, List.not_mem_nil, or_false] at hw
  rcases hw with rfl | rfl | rfl | rfl | rfl | rfl | rfl | rfl | rfl | rfl | rfl | rfl | rfl | rfl | rfl | rfl <;> first | exact va_Nw.same rfl hvm h0 | exact va_AO.moved ha h0 | exact over_moved ha h0
theorem kPre.same {G : kG} {u U : State} (hvm : u.vm = U.vm) (hh : u.heap = U.heap) (h : kPre G u) : kPre G U := by
  obtain ⟨h1, h2, h3, h4, h5, h6⟩ := h
  have ha : u.vm.Alike U.vm := by rw [hvm]; exact Vm.Alike.refl _
  exact ⟨kNst_same hvm h1, va_K.moved ha h2, fun k q hq => by rw [← hh]; exact (h3 k q hq).moved ha, fun k nm hq => by rw [← hh]; exact (h4 k nm hq).moved ha, by rw [← hh]; exact h5, by rw [← hh]; exact h6⟩
theorem kNst_warm {s U : State} (hW : s.WarmedH U.vm) (h : ∀ w ∈ kNst, va_Nw w s) : ∀ w ∈ kNst, va_Nw w U := by
  intro w hw
  have h0 := h w hw
  simp only [kNst, List.mem_cons, List.not_mem_nil, or_false] at hw
  rcases hw with rfl | rfl | rfl | rfl | rfl | rfl | rfl | rfl | rfl | rfl | rfl | rfl | rfl | rfl | rfl | rfl <;> first | exact va_Nw.warmM hW h0 | exact va_Nw.warmF hW h0 | exact va_Nw.warmC hW h0 | exact va_AO.moved hW.alike h0 | exact over_moved hW.alike h0
theorem kPre.warm {G : kG} {s U : State} {H : Heap} {locs : List Loc} (hW : s.WarmedH U.vm) (hU : U.heap = H) (hS : va_S (kA G) s.heap H locs) (h : kPre G s) : kPre G U := by
  obtain ⟨h1, h2, h3, h4, ⟨cell, c1, c2, c3⟩, h6⟩ := h
  have hq : ∀ q : Nat, q < gB G → H[q]? = s.heap[q]? := fun q hq => hS.2.1 q (Nat.lt_of_lt_of_le hq h6) (Nat.not_le.mpr hq)
  refine ⟨kNst_warm hW h1, va_K.moved hW.alike h2, fun k q hk => ?_, fun k nm hk => ?_, ⟨cell, ?_, c2, c3⟩, ?_⟩
  · rw [hU]; exact ((h3 k q hk).moved hW.alike).kept hq
  · rw [hU]; exact ((h4 k nm hk).moved hW.alike).kept (fun a _ ha => hq a (Nat.not_le.mp ha))
  · rw [hU, hq _ c2]; exact c1
  · rw [hU]; exact Nat.le_trans h6 hS.1
/-- the locals -/
def kLV (ls : Array Slot) (nL : Nat) (L : List (Option Value)) : Prop := ls.size = nL ∧ lv_wf ls ∧ L.length ≤ nL ∧ ∀ (i : Nat) (v : Value), L[i]? = some (some v) → ls[i]? = some (.val v)
def kpr (L : List (Option Value)) : List (Nat × Value) := (List.range L.length).filterMap (fun i => match L[i]? with
  | some (some v) => some (i, v)
  | _ => none)
theorem kpr_mem {L : List (Option Value)} {i : Nat} {v : Value} : (i, v) ∈ kpr L ↔ L[i]? = some (some v) := by
  unfold kpr
  rw [List.mem_filterMap]
  constructor
  · rintro ⟨j, -, hj⟩
    split at hj
    · rename_i w hw
      cases hj
      exact hw
    · cases hj
  · intro h
    refine ⟨i, List.mem_range.mpr (List.getElem?_eq_some_iff.mp h).1, ?_⟩
    rw [h]
theorem kLV.has {ls : Array Slot} {nL : Nat} {L : List (Option Value)} (h : kLV ls nL L) : lv_has ls nL (kpr L) := ⟨h.1, h.2.1, fun q hq => h.2.2.2 q.1 q.2 (kpr_mem.mp hq)⟩
/-- nothing of two words ends at i -/
def kok (L : List (Option Value)) : Nat → Bool
  | 0 => true
  | j + 1 => match L[j]? with
    | some (some v) => !(v.category == 2)
    | _ => true
theorem kLV.set1 {ls ls' : Array Slot} {nL : Nat} {L : List (Option Value)} (h : kLV ls nL L) {i : Nat} {v : Value} (hk : kok L i = true) (hs : lv_has ls' nL ((i, v) :: (kpr L).filter (fun q => !(q.1 == i) && !(q.1 + 1 == i && q.2.category == 2)))) : kLV ls' nL (L.set i (some v)) := by
  refine ⟨hs.1, hs.2.1, by rw [List.length_set]; exact h.2.2.1, fun j w hj => ?_⟩
  rw [List.getElem?_set] at hj
  split at hj
  · rename_i e
    subst e
    split at hj
    · cases hj
      exact hs.2.2 (i, v) List.mem_cons_self
    · cases hj
  · rename_i hne
    refine hs.2.2 (j, w) (List.mem_cons_of_mem _ (List.mem_filter.mpr ⟨kpr_mem.mpr hj, ?_⟩))
    by_cases h2 : j + 1 = i
    · subst h2
      simp only [kok, hj] at hk
      simp only [hk, Bool.and_true, Bool.not_and, Bool.not_eq_true']
      simp at hk
      simp [hk]
    · simp [Ne.symm hne, h2]
theorem kLV.set2 {ls ls' : Array Slot} {nL : Nat} {L : List (Option Value)} (h : kLV ls nL L) {i : Nat} {v : Value} (hk : kok L i = true) (hs : lv_has ls' nL ((i, v) :: (kpr L).filter (fun q => !(q.1 == i) && (!(q.1 == i + 1) && !(q.1 + 1 == i && q.2.category == 2))))) : kLV ls' nL ((L.set i (some v)).set (i + 1) none) := by
  refine ⟨hs.1, hs.2.1, by rw [List.length_set, List.length_set]; exact h.2.2.1, fun j w hj => ?_⟩
  rw [List.getElem?_set] at hj
  split at hj
  · split at hj
    · cases hj
    · cases hj
  · rename_i hne1
    rw [List.getElem?_set] at hj
    split at hj
    · rename_i e
      subst e
      split at hj
      · cases hj
        exact hs.2.2 (i, v) List.mem_cons_self
      · cases hj
    · rename_i hne
      refine hs.2.2 (j, w) (List.mem_cons_of_mem _ (List.mem_filter.mpr ⟨kpr_mem.mpr hj, ?_⟩))
      by_cases h2 : j + 1 = i
      · subst h2
        simp only [kok, hj] at hk
        simp at hk
        simp [hk]
        omega
      · simp [Ne.symm hne, h2, Ne.symm hne1]
def kRI (ret : Option FieldType) (r : Option Value) (i : Instr) : Prop :=
  (∃ (v : Int32) (ty : FieldType), ret = some ty ∧ r = some (.int v) ∧ narrow ty (.int v) = .int v ∧ i = .ireturn) ∨ (∃ v : Int64, ret = some .long ∧ r = some (.long v) ∧ i = .lreturn) ∨
  (∃ (v : Value) (nm : String), ret = some (.object nm) ∧ r = some v ∧ (v = .null ∨ ∃ a, v = .ref a) ∧ i = .areturn) ∨ (ret = none ∧ r = none ∧ i = .return_)
def kCx (G : kG) (M : kM) (d : Nat) (p : Program) (R : Room) (s : State) (m : MethodId) (args : Array Value) (meth : Method) (c : Code) : Prop :=
  p.tables.exec = Jvm.exec ∧ c.code = M.2.1 ∧ c.maxLocals = M.2.2.1 ∧ s.vm.findClass M.1.cls = some m.cls ∧ meth.name = M.1.name ∧ (∀ w ∈ kWl, w.before args s = true) ∧ kPre G s ∧ d ≤ R.frames ∧ 44 * d ≤ R.locals
abbrev kPo : Type := Option Value → (Nat → Option kC) → Nat → Prop
def kRt (G : kG) (M : kM) (Post : kPo) (p : Program) (l : Launch) (e : Env) (R : Room) (s : State) (m : MethodId) (args : Array Value) (below : List Frame) (meth : Method) (c : Code) (Q : State → Prop) : Prop :=
  ∀ (H' : Heap) (locs' : List Loc) (cells' slots' : Nat) (ls' : Array Slot) (pc' : Nat) (r : Option Value) (h' : Nat → Option kC) (n' : Nat) (i : Instr), Post r h' n' → kHV G h' n' H' → va_S (kA G) s.heap H' locs' → cells' ≤ R.cells → slots' ≤ R.slots → kRI M.2.2.2 r i → decode M.2.1 pc' = .ok (i, 1) → W p l e R s m args below meth c H' locs' cells' slots' Q (F0 m pc' ls' r.toList)
/-- THE JUDGEMENT: cells c0 and slots s0 are left for what comes -/
def kE (G : kG) (M : kM) (d c0 s0 pc : Nat) (L : List (Option Value)) (stk : List Value) (h : Nat → Option kC) (n : Nat) (Post : kPo) : Prop :=
  ∀ (p : Program) (l : Launch) (e : Env) (R : Room) (s : State) (m : MethodId) (args : Array Value) (below : List Frame) (meth : Method) (c : Code) (H : Heap) (locs : List Loc) (cells slots : Nat) (Q : State → Prop) (ls : Array Slot),
    kCx G M d p R s m args meth c → kLV ls M.2.2.1 L → kHV G h n H → va_S (kA G) s.heap H locs → cells + c0 ≤ R.cells → slots + s0 ≤ R.slots → kRt G M Post p l e R s m args below meth c Q → W p l e R s m args below meth c H locs cells slots Q (F0 m pc ls stk)
def kArg (av : List Value) : List (Option Value) := av.flatMap fun v => if v.category = 2 then [some v, none] else [some v]
def kEnt (nL : Nat) (av : List Value) : List (Option Value) := kArg av ++ List.replicate (nL - (kArg av).length) none
/-- a call of M with the arguments av -/
def kCall (G : kG) (M : kM) (d c0 s0 : Nat) (av : List Value) (h : Nat → Option kC) (n : Nat) (Post : kPo) : Prop := kE G M d c0 s0 0 (kEnt M.2.2.1 av) [] h n Post
theorem kE.mono {G : kG} {M : kM} {d c0 s0 pc : Nat} {L : List (Option Value)} {stk : List Value} {h : Nat → Option kC} {n : Nat} {Post Post' : kPo} (hE : kE G M d c0 s0 pc L stk h n Post) (hp : ∀ r h' n', Post r h' n' → Post' r h' n') : kE G M d c0 s0 pc L stk h n Post' := by
  intro p l e R s m args below meth c H locs cells slots Q ls X hL hH hS hc hs hr
  exact hE p l e R s m args below meth c H locs cells slots Q ls X hL hH hS hc hs (fun H' locs' cells' slots' ls' pc' r h' n' i hP => hr H' locs' cells' slots' ls' pc' r h' n' i (hp r h' n' hP))
theorem kE.less {G : kG} {M : kM} {d c0 s0 c1 s1 pc : Nat} {L : List (Option Value)} {stk : List Value} {h : Nat → Option kC} {n : Nat} {Post : kPo} (hE : kE G M d c0 s0 pc L stk h n Post) (h1 : c0 ≤ c1) (h2 : s0 ≤ s1) : kE G M d c1 s1 pc L stk h n Post := by
  intro p l e R s m args below meth c H locs cells slots Q ls X hL hH hS hc hs hr
  exact hE p l e R s m args below meth c H locs cells slots Q ls X hL hH hS (by omega) (by omega) hr
theorem kE.deep {G : kG} {M : kM} {d d' c0 s0 pc : Nat} {L : List (Option Value)} {stk : List Value} {h : Nat → Option kC} {n : Nat} {Post : kPo} (hE : kE G M d c0 s0 pc L stk h n Post) (hd : d ≤ d') : kE G M d' c0 s0 pc L stk h n Post := by
  intro p l e R s m args below meth c H locs cells slots Q ls X hL hH hS hc hs hr
  obtain ⟨x1, x2, x3, x4, x5, x6, x7, x8, x9⟩ := X
  exact hE p l e R s m args below meth c H locs cells slots Q ls ⟨x1, x2, x3, x4, x5, x6, x7, by omega, by omega⟩ hL hH hS hc hs hr
theorem kCall.mono {G : kG} {M : kM} {d c0 s0 : Nat} {av : List Value} {h : Nat → Option kC} {n : Nat} {Post Post' : kPo} (hE : kCall G M d c0 s0 av h n Post) (hp : ∀ r h' n', Post r h' n' → Post' r h' n') : kCall G M d c0 s0 av h n Post' := kE.mono hE hp
theorem kCall.deep {G : kG} {M : kM} {d d' c0 s0 : Nat} {av : List Value} {h : Nat → Option kC} {n : Nat} {Post : kPo} (hE : kCall G M d c0 s0 av h n Post) (hd : d ≤ d') : kCall G M d' c0 s0 av h n Post := kE.deep hE hd
