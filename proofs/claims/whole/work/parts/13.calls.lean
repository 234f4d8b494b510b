/-! calls -/
def kWs (M : kM) : List Cond := Cond.code M.1 M.2.1 M.2.2.1 M.2.2.2 :: kWl
def kRm (d c0 s0 : Nat) : Room := { frames := d, cells := c0, slots := s0, locals := 44 * d }
def kPc (G : kG) (av : List Value) (h : Nat → Option kC) (n : Nat) : Array Value → State → Prop := va_Pc av (fun U => kHV G h n U.heap ∧ kPre G U)
def kQ (G : kG) (Post : kPo) : Array Value → State → Outcome → State → Prop := fun _ st oc t => ∃ (r : Option Value) (h' : Nat → Option kC) (n' : Nat), oc = .returned r ∧ Post r h' n' ∧ kHV G h' n' t.heap ∧ va_F (kA G) st t
theorem kGood {M : kM} {np : Nat} (hm : kMt M np) : GoodIn kWl (kWs M) := by
  intro w hw
  rcases List.mem_cons.mp hw with rfl | hw
  · exact ⟨kWl_in hm.2.2.1, good_of_word hm.2.2.1.2⟩
  · exact ⟨hw, good_of_word (kWl_of hw).2⟩
theorem kArg_len (av : List Value) : (kArg av).length = (lg_sl av).length := by
  induction av with
  | nil => rfl
  | cons v l ih =>
    show (List.flatMap _ (v :: l)).length = (List.flatMap _ (v :: l)).length
    rw [List.flatMap_cons, List.flatMap_cons, List.length_append, List.length_append]
    have h1 : (List.flatMap (fun v => if Value.category v = 2 then [some v, none] else [some v]) l).length = (List.flatMap (fun v => if Value.category v = 2 then [Slot.val v, Slot.second] else [Slot.val v]) l).length := ih
    rw [h1]
    split <;> rfl
theorem kArg_at (av : List Value) : ∀ (i : Nat) (v : Value), (kArg av)[i]? = some (some v) → (lg_sl av)[i]? = some (.val v) := by
  induction av with
  | nil => intro i v h; simp [kArg] at h
  | cons w l ih =>
    intro i v h
    have e1 : kArg (w :: l) = (if w.category = 2 then [some w, none] else [some w]) ++ kArg l := List.flatMap_cons
    have e2 : lg_sl (w :: l) = (if w.category = 2 then [.val w, .second] else [.val w]) ++ lg_sl l := List.flatMap_cons
    rw [e1] at h
    rw [e2]
    split at h <;> rename_i hc
    · rw [if_pos hc]
      match i, h with
      | 0, h => simpa using h
      | 1, h => simp at h
      | i + 2, h =>
        have h' : (kArg l)[i]? = some (some v) := by simpa using h
        simpa using ih i v h'
    · rw [if_neg hc]
      match i, h with
      | 0, h => simpa using h
      | i + 1, h =>
        have h' : (kArg l)[i]? = some (some v) := by simpa using h
        simpa using ih i v h'
theorem kEnt_lv {nL : Nat} {av : List Value} (hn : (lg_sl av).length ≤ nL) : kLV ((lg_sl av ++ List.replicate (nL - (lg_sl av).length) Slot.unset).toArray) nL (kEnt nL av) := by
  have h := lv_entry av hn
  refine ⟨h.1, h.2.1, ?_, fun i v hi => ?_⟩
  · unfold kEnt
    rw [List.length_append, List.length_replicate, kArg_len]
    omega
  · unfold kEnt at hi
    rw [List.getElem?_append] at hi
    split at hi
    · rename_i hlt
      rw [List.getElem?_toArray, List.getElem?_append_left (by rw [← kArg_len]; exact hlt)]
      exact kArg_at av i v hi
    · rw [List.getElem?_replicate] at hi
      split at hi <;> cases hi
theorem kCall.met {G : kG} {M : kM} {np d c0 s0 : Nat} {av : List Value} {h : Nat → Option kC} {n : Nat} {Post : kPo} (hm : kMt M np) (hav : (lg_sl av).length ≤ M.2.2.1) (hE : kCall G M d c0 s0 av h n Post) (l : Launch) : Met l M.1 (kWs M) (kRm d c0 s0) (kPc G av h n) (kQ G Post) c0 s0 (kA G) := by
  refine Met.ofW (cc := M.2.1) (maxL := M.2.2.1) (ret := M.2.2.2) hm.1 rfl ?_
  intro p e s m args below meth c s₁ B hml hv
  obtain ⟨rfl, hH, hpre⟩ := hv
  have hlocks := B.notSynchronized
  have hts := atoms_spec (ws := kWs M) B.pre
  have hret := B.returns
  rw [lg_entry_eq]
  refine hE p l e _ s m _ below meth c s.heap [] 0 0 _ _ ⟨B.exec, B.bytes, hml, findClass_of_methodNamed B.named, (name_of_methodNamed B.named B.method).1, fun w hw => hts w (List.mem_cons_of_mem _ hw), hpre, Nat.le_refl _, Nat.le_refl _⟩ (kEnt_lv hav) hH va_S.rf (by show 0 + c0 ≤ c0; omega) (by show 0 + s0 ≤ s0; omega) ?_
  intro H' locs' cells' slots' ls' pc' r h' n' i hP hH' hS' hc' hs' hri hd
  refine W.widen (k := c0) (n := s0) hc' hs' ?_
  rcases hri with ⟨v, ty, e1, e2, e3, e4⟩ | ⟨v, e1, e2, e4⟩ | ⟨v, nm, e1, e2, e3, e4⟩ | ⟨e1, e2, e4⟩
  · subst e2; subst e4
    exact W.zret B.exec B.bytes (hret.trans e1) e3 (fun t ht _ => ⟨_, h', n', rfl, hP, by rw [ht]; exact hH', hS'.F ht⟩) hS'.2.2 hd
  · subst e2; subst e4
    exact W.lret B.exec B.bytes (hret.trans e1) (fun t ht _ => ⟨_, h', n', rfl, hP, by rw [ht]; exact hH', hS'.F ht⟩) hS'.2.2 hd
  · subst e2; subst e4
    exact W.aret B.exec B.bytes (hret.trans e1) (Or.inl ⟨nm, rfl⟩) e3 (fun t ht _ => ⟨_, h', n', rfl, hP, by rw [ht]; exact hH', hS'.F ht⟩) hS'.2.2 hd
  · subst e2; subst e4
    exact W.vret B.exec B.bytes (hret.trans e1) (fun t ht _ => ⟨_, h', n', rfl, hP, by rw [ht]; exact hH', hS'.F ht⟩) hS'.2.2 hd
section KC
variable {G : kG} {M M' : kM} {d c1 s1 c2 s2 pc np idx : Nat} {L : List (Option Value)} {av st : List Value} {h : Nat → Option kC} {n : Nat} {Post PostC : kPo}
theorem kPc_blind : FrameBlind (kPc G av h n) := fun a U g mk q => ⟨q.1, q.2.1, kPre.same (u := U) (U := U.calling g mk a) rfl rfl q.2.2⟩
/-- behind a call -/
theorem kBehind {p : Program} {l : Launch} {e : Env} {R : Room} {s : State} {m : MethodId} {args : Array Value} {below : List Frame} {meth : Method} {c : Code} {H : Heap} {locs : List Loc} {cells slots : Nat} {Q : State → Prop} {ls : Array Slot} {stk : List Value} {a : Array Value} (hr : va_Run p l e R s m args below meth c H locs cells slots c1 s1 (F0 m pc ls stk) st (kQ G PostC a) (kA G))
    (X : kCx G M (d + 1) p R s m args meth c) (hL : kLV ls M.2.2.1 L) (hS : va_S (kA G) s.heap H locs) (hc : cells + (c1 + c2) ≤ R.cells) (hs : slots + (s1 + s2) ≤ R.slots) (hrt : kRt G M Post p l e R s m args below meth c Q)
    (kk : ∀ (r : Option Value) (h' : Nat → Option kC) (n' : Nat), PostC r h' n' → kE G M (d + 1) c2 s2 (pc + 3) L (r.toList ++ st) h' n' Post) : W p l e R s m args below meth c H locs cells slots Q (F0 m pc ls stk) := by
  intro T hT XT
  obtain ⟨v, st₀, t, T', L', h0, X', hL', e1, e2, ⟨r, h', n', hv, hp, hH', hz, hk⟩, stp⟩ := hr T hT XT
  cases hv
  rw [h0] at hz hk
  have hS' : va_S (kA G) s.heap T'.heap (locs ++ L') := ⟨Nat.le_trans hS.1 (by rw [e1]; exact hz), fun q h1 h2 => by rw [e1, hk q (Nat.lt_of_lt_of_le h1 hS.1) h2]; exact hS.2.1 q h1 h2, fun q hq => by
      rcases List.mem_append.mp hq with h | h
      · exact hS.2.2 q h
      · exact hL' q h⟩
  obtain ⟨t2, a1, b1⟩ := kk _ h' n' hp p l e R s m args below meth c T'.heap (locs ++ L') (cells + c1) (slots + s1) Q ls X hL (by rw [e1]; exact hH') hS' (by omega) (by omega) hrt T' rfl X'
  exact ⟨t2, stp t2 a1, b1⟩
theorem kRoomOk {R : Room} (h1 : d + 1 ≤ R.frames) (h2 : 44 * (d + 1) ≤ R.locals) (hm : kMt M' np) : (kRm d c1 s1).frames + 1 ≤ R.frames ∧ 8 + (M'.2.2.1 + 11) + (kRm d c1 s1).locals ≤ R.locals := by
  have := hm.2.2.2.2
  refine ⟨h1, ?_⟩
  show 8 + (M'.2.2.1 + 11) + 44 * d ≤ _
  omega
theorem e_callS (hm : kMt M' np) (hst : kWd (.static M'.1)) (hl : kWd (.methodLink M.1.cls idx M'.1)) (hd : decode M.2.1 pc = .ok (.invokestatic idx, 3)) (hn : av.length = np) (hav : (lg_sl av).length ≤ M'.2.2.1) (hrm : (st.map fun v => v.category).sum ≤ 8) (hC : kCall G M' d c1 s1 av h n PostC)
    (kk : ∀ (r : Option Value) (h' : Nat → Option kC) (n' : Nat), PostC r h' n' → kE G M (d + 1) c2 s2 (pc + 3) L (r.toList ++ st) h' n' Post) {stk : List Value} (hstk : stk = av.reverse ++ st) : kE G M (d + 1) (c1 + c2) (s1 + s2) pc L stk h n Post := by
  intro p l e R s m args below meth c H locs cells slots Q ls X hL hH hS hc hs hr
  obtain ⟨x1, x2, x3, x4, x5, x6, x7, x8, x9⟩ := id X
  exact kBehind (va_runS (As := av) (rest := st) ⟨x1, x2, x3, x4, x6⟩ (kCall.met hm hav hC l) ⟨callB_of np x6 (kGood hm) rfl rfl rfl (x6 _ (kWl_in hm.2.2.2.1)) (x6 _ (kWl_in hl)) hm.2.1 (kRoomOk x8 x9 hm), x6 _ (kWl_in hst)⟩ ⟨kPc_blind, fun U hU hW => ⟨rfl, by rw [hU]; exact hH, x7.warm hW hU hS⟩⟩ rfl hn hL.1 hstk (lv_room hrm) hd ⟨by omega, by omega⟩) X hL hS hc hs hr kk
theorem e_callSN (hm : kMt M' np) (hst : kWd (.static M'.1)) {host : String} (hl : Cond.methodLinkNest M.1.cls idx M'.1 host ∈ kNst) (hd : decode M.2.1 pc = .ok (.invokestatic idx, 3)) (hn : av.length = np) (hav : (lg_sl av).length ≤ M'.2.2.1) (hrm : (st.map fun v => v.category).sum ≤ 8) (hC : kCall G M' d c1 s1 av h n PostC)
    (kk : ∀ (r : Option Value) (h' : Nat → Option kC) (n' : Nat), PostC r h' n' → kE G M (d + 1) c2 s2 (pc + 3) L (r.toList ++ st) h' n' Post) {stk : List Value} (hstk : stk = av.reverse ++ st) : kE G M (d + 1) (c1 + c2) (s1 + s2) pc L stk h n Post := by
  intro p l e R s m args below meth c H locs cells slots Q ls X hL hH hS hc hs hr
  obtain ⟨x1, x2, x3, x4, x5, x6, x7, x8, x9⟩ := id X
  exact kBehind (va_runSN (As := av) (rest := st) ⟨x1, x2, x3, x4, x6⟩ (kCall.met hm hav hC l) ⟨va_cnB np x6 (kGood hm) rfl rfl rfl (x7.1 _ hl) (x6 _ (kWl_in hm.2.2.2.1)) hm.2.1 (kRoomOk x8 x9 hm), x6 _ (kWl_in hst), trivial⟩ ⟨kPc_blind, fun U hU hW => ⟨rfl, by rw [hU]; exact hH, x7.warm hW hU hS⟩⟩ rfl hn hL.1 hstk (lv_room hrm) hd ⟨by omega, by omega⟩) X hL hS hc hs hr kk
theorem e_callV (hm : kMt M' np) (hi : kIn M') (hl : kWd (.methodLink M.1.cls idx M'.1)) (hd : decode M.2.1 pc = .ok (.invokevirtual idx, 3)) {i ci : Nat} {fs : List Value} {q : vw_C} (he : h i = some (kob ci fs)) (hcl : vwCl[ci]? = some q) (hq : M'.1.cls = q.1) (hn : av.length = np) (hav : (lg_sl (.ref (gB G + i) :: av)).length ≤ M'.2.2.1) (hrm : (st.map fun v => v.category).sum ≤ 8) (hC : kCall G M' d c1 s1 (.ref (gB G + i) :: av) h n PostC)
    (kk : ∀ (r : Option Value) (h' : Nat → Option kC) (n' : Nat), PostC r h' n' → kE G M (d + 1) c2 s2 (pc + 3) L (r.toList ++ st) h' n' Post) {stk : List Value} (hstk : stk = av.reverse ++ .ref (gB G + i) :: st) : kE G M (d + 1) (c1 + c2) (s1 + s2) pc L stk h n Post := by
  intro p l e R s m args below meth c H locs cells slots Q ls X hL hH hS hc hs hr
  obtain ⟨x1, x2, x3, x4, x5, x6, x7, x8, x9⟩ := id X
  have hrec := va_recv x7.2.1 (kP1 hH he) (ci := ci) (q0 := 0) hcl rfl
  exact kBehind (va_runV (C := M'.1.cls) (As := av) (rest := st) ⟨x1, x2, x3, x4, x6⟩ (kCall.met hm hav hC l) ⟨callB_of np x6 (kGood hm) rfl rfl rfl (x6 _ (kWl_in hm.2.2.2.1)) (x6 _ (kWl_in hl)) hm.2.1 (kRoomOk x8 x9 hm), x6 _ (kWl_in hi.1), x6 _ (kWl_in hi.2)⟩ ⟨kPc_blind, by rw [hq]; exact hrec, fun U hU hW => ⟨rfl, by rw [hU]; exact hH, x7.warm hW hU hS⟩⟩ rfl hn hL.1 hstk (lv_room hrm) hd ⟨by omega, by omega⟩) X hL hS hc hs hr kk
theorem e_callI (hm : kMt M' np) (hret : M'.2.2.2 = none) (hname : M'.1.name = "<init>") (hi : kWd (.instanceMethod M'.1)) (hl : kWd (.methodLink M.1.cls idx M'.1)) (hd : decode M.2.1 pc = .ok (.invokespecial idx, 3)) {i : Nat} (hn : av.length = np) (hav : (lg_sl (.ref (gB G + i) :: av)).length ≤ M'.2.2.1) (hrm : (st.map fun v => v.category).sum ≤ 8) (hC : kCall G M' d c1 s1 (.ref (gB G + i) :: av) h n PostC)
    (kk : ∀ (r : Option Value) (h' : Nat → Option kC) (n' : Nat), PostC r h' n' → kE G M (d + 1) c2 s2 (pc + 3) L (r.toList ++ st) h' n' Post) {stk : List Value} (hstk : stk = av.reverse ++ .ref (gB G + i) :: st) : kE G M (d + 1) (c1 + c2) (s1 + s2) pc L stk h n Post := by
  intro p l e R s m args below meth c H locs cells slots Q ls X hL hH hS hc hs hr
  obtain ⟨x1, x2, x3, x4, x5, x6, x7, x8, x9⟩ := id X
  exact kBehind (va_runI (As := av) (rest := st) ⟨x1, x2, x3, x4, x6⟩ (kCall.met hm hav hC l) ⟨callB_of np x6 (kGood hm) (by rw [kWs, hret]) rfl rfl (x6 _ (kWl_in hm.2.2.2.1)) (x6 _ (kWl_in hl)) hm.2.1 (kRoomOk x8 x9 hm), hname, x6 _ (kWl_in hi)⟩ ⟨kPc_blind, fun U hU hW => ⟨rfl, by rw [hU]; exact hH, x7.warm hW hU hS⟩⟩ rfl hn hL.1 hstk (lv_room hrm) hd ⟨by omega, by omega⟩) X hL hS hc hs hr kk
theorem e_callIN (hm : kMt M' np) (hret : M'.2.2.2 = none) (hname : M'.1.name = "<init>") (hi : kWd (.instanceMethod M'.1)) {host : String} (hl : Cond.methodLinkNest M.1.cls idx M'.1 host ∈ kNst) (hd : decode M.2.1 pc = .ok (.invokespecial idx, 3)) {i : Nat} (hn : av.length = np) (hav : (lg_sl (.ref (gB G + i) :: av)).length ≤ M'.2.2.1) (hrm : (st.map fun v => v.category).sum ≤ 8) (hC : kCall G M' d c1 s1 (.ref (gB G + i) :: av) h n PostC)
    (kk : ∀ (r : Option Value) (h' : Nat → Option kC) (n' : Nat), PostC r h' n' → kE G M (d + 1) c2 s2 (pc + 3) L (r.toList ++ st) h' n' Post) {stk : List Value} (hstk : stk = av.reverse ++ .ref (gB G + i) :: st) : kE G M (d + 1) (c1 + c2) (s1 + s2) pc L stk h n Post := by
  intro p l e R s m args below meth c H locs cells slots Q ls X hL hH hS hc hs hr
  obtain ⟨x1, x2, x3, x4, x5, x6, x7, x8, x9⟩ := id X
  exact kBehind (va_runIN (As := av) (rest := st) ⟨x1, x2, x3, x4, x6⟩ (kCall.met hm hav hC l) ⟨va_cnB np x6 (kGood hm) (by rw [kWs, hret]) rfl rfl (x7.1 _ hl) (x6 _ (kWl_in hm.2.2.2.1)) hm.2.1 (kRoomOk x8 x9 hm), hname, x6 _ (kWl_in hi)⟩ ⟨kPc_blind, fun U hU hW => ⟨rfl, by rw [hU]; exact hH, x7.warm hW hU hS⟩⟩ rfl hn hL.1 hstk (lv_room hrm) hd ⟨by omega, by omega⟩) X hL hS hc hs hr kk
end KC
