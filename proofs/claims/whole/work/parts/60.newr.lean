/-! NEW OBJECTS: rules -/
section KN
variable {G : kG} {M M' : kM} {d c0 s0 pc np idx : Nat} {L : List (Option Value)} {st : List Value} {h h1 : Nat → Option kC} {n n1 : Nat} {Post : kPo}
theorem e_na {N : Nat} (hd : decode M.2.1 pc = .ok (.newarray .int, 2)) (hc : Nat.ble 1 c0 = true) (hs : Nat.ble N s0 = true) (hN : Nat.ble N 100000 = true) (kk : kE G M d (c0 - 1) (s0 - N) (pc + 2) L (.ref (gB G + n) :: st) (kup h n (kia N (fun _ => 0))) (n + 1) Post) : kE G M d c0 s0 pc L (.int (jI (N : Int)) :: st) h n Post := by
  have a1 := Nat.le_of_ble_eq_true hc
  have a2 := Nat.le_of_ble_eq_true hs
  have a3 := Nat.le_of_ble_eq_true hN
  have h9 := e_newai (c0 := c0 - 1) (s0 := s0 - N) (a := (N : Int)) (L := L) (st := st) (Post := Post) hd (by omega) (by omega) (by rw [Int.toNat_natCast]; exact kk)
  rw [Int.toNat_natCast, Nat.sub_add_cancel a1, Nat.sub_add_cancel a2] at h9
  exact h9
theorem e_nal {N : Nat} (hd : decode M.2.1 pc = .ok (.newarray .long, 2)) (hc : Nat.ble 1 c0 = true) (hs : Nat.ble N s0 = true) (hN : Nat.ble N 100000 = true) (kk : kE G M d (c0 - 1) (s0 - N) (pc + 2) L (.ref (gB G + n) :: st) (kup h n (kla N (fun _ => 0))) (n + 1) Post) : kE G M d c0 s0 pc L (.int (jI (N : Int)) :: st) h n Post := by
  have a1 := Nat.le_of_ble_eq_true hc
  have a2 := Nat.le_of_ble_eq_true hs
  have a3 := Nat.le_of_ble_eq_true hN
  have h9 := e_newal (c0 := c0 - 1) (s0 := s0 - N) (a := (N : Int)) (L := L) (st := st) (Post := Post) hd (by omega) (by omega) (by rw [Int.toNat_natCast]; exact kk)
  rw [Int.toNat_natCast, Nat.sub_add_cancel a1, Nat.sub_add_cancel a2] at h9
  exact h9
theorem e_naz {N : Nat} (hd : decode M.2.1 pc = .ok (.newarray .boolean, 2)) (hc : Nat.ble 1 c0 = true) (hs : Nat.ble N s0 = true) (hN : Nat.ble N 100000 = true) (kk : kE G M d (c0 - 1) (s0 - N) (pc + 2) L (.ref (gB G + n) :: st) (kup h n (kza N (fun _ => 0))) (n + 1) Post) : kE G M d c0 s0 pc L (.int (jI (N : Int)) :: st) h n Post := by
  have a1 := Nat.le_of_ble_eq_true hc
  have a2 := Nat.le_of_ble_eq_true hs
  have a3 := Nat.le_of_ble_eq_true hN
  have h9 := e_newaz (c0 := c0 - 1) (s0 := s0 - N) (a := (N : Int)) (L := L) (st := st) (Post := Post) hd (by omega) (by omega) (by rw [Int.toNat_natCast]; exact kk)
  rw [Int.toNat_natCast, Nat.sub_add_cancel a1, Nat.sub_add_cancel a2] at h9
  exact h9
theorem e_nar {t N : Nat} {C : String} (hw : kWd (.classLink M.1.cls idx C)) (ho : Cond.arrayOver (.object C) ∈ kNst) (ht : ∀ cA, (ktys cA)[t]? = some (cA t, .object C)) (hd : decode M.2.1 pc = .ok (.anewarray idx, 3)) (hc : Nat.ble 1 c0 = true) (hs : Nat.ble N s0 = true) (hN : Nat.ble N 100000 = true) (kk : kE G M d (c0 - 1) (s0 - N) (pc + 3) L (.ref (gB G + n) :: st) (kup h n (kra t N (fun _ => none))) (n + 1) Post) : kE G M d c0 s0 pc L (.int (jI (N : Int)) :: st) h n Post := by
  have a1 := Nat.le_of_ble_eq_true hc
  have a2 := Nat.le_of_ble_eq_true hs
  have a3 := Nat.le_of_ble_eq_true hN
  have h9 := e_anew (c0 := c0 - 1) (s0 := s0 - N) (a := (N : Int)) (L := L) (st := st) (Post := Post) hw ho ht hd (by omega) (by omega) (by rw [Int.toNat_natCast]; exact kk)
  rw [Int.toNat_natCast, Nat.sub_add_cancel a1, Nat.sub_add_cancel a2] at h9
  exact h9
theorem e_ob {ci N : Nat} {ty0 : Nat → FieldType} (fs : List Value) (hw : kNw M.1.cls idx ci N ty0) (hd : decode M.2.1 pc = .ok (.new idx, 3)) (hfs : ∀ j, j < N → defaultValue (ty0 j) = vp_V fs j) (hc : Nat.ble 1 c0 = true) (hs : Nat.ble N s0 = true) (kk : kE G M d (c0 - 1) (s0 - N) (pc + 3) L (.ref (gB G + n) :: st) (kup h n (kob ci fs)) (n + 1) Post) : kE G M d c0 s0 pc L st h n Post := by
  have a1 := Nat.le_of_ble_eq_true hc
  have a2 := Nat.le_of_ble_eq_true hs
  have h9 := e_new (c0 := c0 - 1) (s0 := s0 - N) (L := L) (st := st) (Post := Post) hw hd hfs kk
  rw [Nat.sub_add_cancel a1, Nat.sub_add_cancel a2] at h9
  exact h9
theorem eJ0 {c1 s1 i : Nat} {PostC : kPo} (hm : kMt M' 0) (hret : M'.2.2.2 = none) (hname : M'.1.name = "<init>") (hi : kWd (.instanceMethod M'.1)) (hl : kWd (.methodLink M.1.cls idx M'.1)) (hd : decode M.2.1 pc = .ok (.invokespecial idx, 3)) (hav : Nat.ble (lg_sl ([.ref (gB G + i)] : List Value)).length M'.2.2.1 = true) (hrm : Nat.ble (st.map fun v => v.category).sum 8 = true) (hc : Nat.ble c1 c0 = true) (hs : Nat.ble s1 s0 = true) (hC : kCall G M' d c1 s1 [.ref (gB G + i)] h n PostC) (kk : ∀ (r : Option Value) (h' : Nat → Option kC) (n' : Nat), PostC r h' n' → kE G M (d + 1) (c0 - c1) (s0 - s1) (pc + 3) L (r.toList ++ st) h' n' Post) : kE G M (d + 1) c0 s0 pc L (.ref (gB G + i) :: st) h n Post := by
  have a1 := Nat.le_of_ble_eq_true hc
  have a2 := Nat.le_of_ble_eq_true hs
  have h9 := e_callI (L := L) (c2 := c0 - c1) (s2 := s0 - s1) (st := st) (Post := Post) hm hret hname hi hl hd rfl (Nat.le_of_ble_eq_true hav) (Nat.le_of_ble_eq_true hrm) hC kk (stk := .ref (gB G + i) :: st) rfl
  rw [Nat.add_sub_cancel' a1, Nat.add_sub_cancel' a2] at h9
  exact h9
theorem eJN0 {c1 s1 i : Nat} {PostC : kPo} (hm : kMt M' 0) (hret : M'.2.2.2 = none) (hname : M'.1.name = "<init>") (hi : kWd (.instanceMethod M'.1)) {host : String} (hl : Cond.methodLinkNest M.1.cls idx M'.1 host ∈ kNst) (hd : decode M.2.1 pc = .ok (.invokespecial idx, 3)) (hav : Nat.ble (lg_sl ([.ref (gB G + i)] : List Value)).length M'.2.2.1 = true) (hrm : Nat.ble (st.map fun v => v.category).sum 8 = true) (hc : Nat.ble c1 c0 = true) (hs : Nat.ble s1 s0 = true) (hC : kCall G M' d c1 s1 [.ref (gB G + i)] h n PostC) (kk : ∀ (r : Option Value) (h' : Nat → Option kC) (n' : Nat), PostC r h' n' → kE G M (d + 1) (c0 - c1) (s0 - s1) (pc + 3) L (r.toList ++ st) h' n' Post) : kE G M (d + 1) c0 s0 pc L (.ref (gB G + i) :: st) h n Post := by
  have a1 := Nat.le_of_ble_eq_true hc
  have a2 := Nat.le_of_ble_eq_true hs
  have h9 := e_callIN (L := L) (c2 := c0 - c1) (s2 := s0 - s1) (st := st) (Post := Post) hm hret hname hi hl hd rfl (Nat.le_of_ble_eq_true hav) (Nat.le_of_ble_eq_true hrm) hC kk (stk := .ref (gB G + i) :: st) rfl
  rw [Nat.add_sub_cancel' a1, Nat.add_sub_cancel' a2] at h9
  exact h9
theorem eJ1 {c1 s1 i : Nat} {v : Value} {PostC : kPo} (hm : kMt M' 1) (hret : M'.2.2.2 = none) (hname : M'.1.name = "<init>") (hi : kWd (.instanceMethod M'.1)) (hl : kWd (.methodLink M.1.cls idx M'.1)) (hd : decode M.2.1 pc = .ok (.invokespecial idx, 3)) (hav : Nat.ble (lg_sl ([.ref (gB G + i), v] : List Value)).length M'.2.2.1 = true) (hrm : Nat.ble (st.map fun v => v.category).sum 8 = true) (hc : Nat.ble c1 c0 = true) (hs : Nat.ble s1 s0 = true) (hC : kCall G M' d c1 s1 [.ref (gB G + i), v] h n PostC) (kk : ∀ (r : Option Value) (h' : Nat → Option kC) (n' : Nat), PostC r h' n' → kE G M (d + 1) (c0 - c1) (s0 - s1) (pc + 3) L (r.toList ++ st) h' n' Post) : kE G M (d + 1) c0 s0 pc L (v :: .ref (gB G + i) :: st) h n Post := by
  have a1 := Nat.le_of_ble_eq_true hc
  have a2 := Nat.le_of_ble_eq_true hs
  have h9 := e_callI (av := [v]) (L := L) (c2 := c0 - c1) (s2 := s0 - s1) (st := st) (Post := Post) hm hret hname hi hl hd rfl (Nat.le_of_ble_eq_true hav) (Nat.le_of_ble_eq_true hrm) hC kk (stk := v :: .ref (gB G + i) :: st) rfl
  rw [Nat.add_sub_cancel' a1, Nat.add_sub_cancel' a2] at h9
  exact h9
theorem kIname {s : State} (hK : va_K (gD G) vwCl (ktys (gC G)) s) : s.vm.findClass "[I" = some (gC G 0) := (hK.2 0 _ rfl).2
theorem e_castI {i N : Nat} {F : Nat → Int} (hw : kWd (.classLink M.1.cls idx "[I")) (hd : decode M.2.1 pc = .ok (.checkcast idx, 3)) (he : h i = some (kia N F)) (kk : kE G M d c0 s0 (pc + 3) L (.ref (gB G + i) :: st) h n Post) : kE G M d c0 s0 pc L (.ref (gB G + i) :: st) h n Post := by
  intro p l e R s m args below meth c H locs cells slots Q ls X hL hH hS hc hs hr
  exact va_castA X.1 X.2.1 X.2.2.2.1 (X.2.2.2.2.2.1 _ (kWl_in hw)) (kP1 hH he) 0 rfl (kIname X.2.2.2.2.2.2.1.2.1) hd (kk p l e R s m args below meth c H locs cells slots Q ls X hL hH hS hc hs hr)
theorem e_clone {f : Nat → Int32} {E : Nat → Int} (hl : kWd (.methodLink M.1.cls idx ⟨"[I", "clone", "()Ljava/lang/Object;"⟩)) (hd : decode M.2.1 pc = .ok (.invokevirtual idx, 3)) (he : (gT G)[1]? = some (gS G 1, 3, f)) (hf : ∀ j, j < 3 → f j = jI (E j)) (hrm : Nat.ble (st.map fun v => v.category).sum 8 = true) (hc9 : Nat.ble 1 c0 = true) (hs9 : Nat.ble 3 s0 = true) (kk : kE G M (d + 1) (c0 - 1) (s0 - 3) (pc + 3) L (.ref (gB G + n) :: st) (kup h n (kia 3 E)) (n + 1) Post) : kE G M (d + 1) c0 s0 pc L (.ref (gS G 1) :: st) h n Post := by
  intro p l e R s m args below meth c H locs cells slots Q ls X hL hH hS hc hs hr
  obtain ⟨x1, x2, x3, x4, x5, x6, x7, x8, x9⟩ := id X
  have b1 := Nat.le_of_ble_eq_true hc9
  have b2 := Nat.le_of_ble_eq_true hs9
  have hrm9 := Nat.le_of_ble_eq_true hrm
  have hK := x7.2.1
  obtain ⟨cell, k1, k2, k3, k4, k5, k6, k7⟩ := x7.2.2.1 1 _ he
  obtain ⟨cell', c1, c2, c3, c4⟩ := x7.2.2.2.2.1
  dsimp only at k1 k5 k7
  have ec : cell = cell' := Option.some.inj (k1.symm.trans c1)
  subst ec
  have hq : H[gS G 1]? = some cell := by
    rw [hS.2.1 _ (Nat.lt_of_lt_of_le c2 x7.2.2.2.2.2) (Nat.not_le.mpr c2)]
    exact c1
  obtain ⟨c8, t8, f1, f2, f3⟩ := Cond.castable_spec (va_Nw.use (A := args) rfl (x7.1 _ lc_0))
  cases (kIname hK).symm.trans f1
  have hcell : cell.slots = (vp_cell (gC G 0) (3, .inl (fun j => jI (E j)))).slots := by
    apply Array.ext
    · rw [k5]
      exact (arrV_size _ _ _).symm
    · intro j h1 h2
      have hj : j < 3 := by rw [k5] at h1; exact h1
      have e1 := k7 j hj
      have e2 : (vp_cell (gC G 0) (3, .inl (fun j => jI (E j)))).slots[j]? = some (.int (jI (E j))) := arrV_read (gC G 0) (fun j => .int (jI (E j))) hj
      rw [Array.getElem?_eq_getElem h1] at e1
      rw [Array.getElem?_eq_getElem h2] at e2
      rw [Option.some.inj e1, Option.some.inj e2, hf j hj]
  have hcellE : ({ cls := cell.cls, slots := cell.slots } : Cell) = vp_cell (gC G 0) (3, .inl (fun j => jI (E j))) := by
    rw [hcell, c3]
    rfl
  intro T hT XT
  obtain ⟨-, kA9, hkA, comp, hkind⟩ := State.isArrayOf_alike XT.warmed.alike ((hK.2 0 _ rfl).1 0 (fun _ => .null))
  obtain ⟨-, kS, hkS, compS, hkindS⟩ := (hK.2 0 _ rfl).1 0 (fun _ => .null)
  obtain ⟨vm', X', st9⟩ := XT.cloneArray x1 x4 (x6 _ (kWl_in hl)) (x6 _ (kWl_in kx_clM)) (x6 _ (kWl_in kx_clN)) (x6 _ (kWl_in kx_clI)) (x6 _ (kWl_in kx_clS)) (a := gS G 1) (cell := cell) (by rw [hT]; exact hq) (fun k hk => by rw [hk] at c4; cases c4) k4 (by rw [c3]; exact kIname hK) f2 (by rw [c3]; exact f3)
    (fun i v hv => by
      rw [c3]
      have hk' : T.vm.classes[gC G 0]? = some kA9 := hkA
      have hi : i < 3 := by rw [← k5]; exact (Array.getElem?_eq_some_iff.mp hv).1
      rw [k7 i hi] at hv
      cases hv
      simp [State.fitsSlot, State.slotType?, hk', hkind, fits])
    (g := F0 m pc ls (.ref (gS G 1) :: st)) rfl (by rw [x3]; exact hL.1) rfl (by rw [x2]; exact hd) (by omega) (by show 2 * 0 + _ + 14 ≤ _; omega) (by omega) (by rw [k5]; omega) (hloader := by rw [c3]; exact Vm.clonesLoader_of_array hkS hkindS)
  rw [hcellE, k5] at X'
  generalize hH1 : H.push (vp_cell (gC G 0) (3, .inl (fun j => jI (E j)))) = H1
  have z1 : H1.size = H.size + 1 := by rw [← hH1, Array.size_push]
  have e1 : H1[H.size]? = some (vp_cell (gC G 0) (3, .inl (fun j => jI (E j)))) := by rw [← hH1, Array.getElem?_push_size]
  have o1 : ∀ q : Nat, q < H.size → H1[q]? = H[q]? := fun q hq => by rw [← hH1, Array.getElem?_push, if_neg (Nat.ne_of_lt hq)]
  have e2 : H1[gB G + n]? = some (vp_cell (gC G 0) (3, .inl (fun j => jI (E j)))) := by rw [← hH.1]; exact e1
  obtain ⟨t, a1, a2⟩ := kk p l e R s m args below meth c H1 locs (cells + 1) (slots + 3) Q ls X hL (hH.push z1 o1 e2) (kSz hH x7.2.2.2.2.2 hS (by omega) o1) (by omega) (by omega) hr ((T.setVm vm').pushCell (vp_cell (gC G 0) (3, .inl (fun j => jI (E j))))) (by rw [← hH1, ← hT]; rfl) X'
  refine ⟨t, st9 t ?_, a2⟩
  have e9 : T.heap.size = gB G + n := by rw [hT]; exact hH.1
  rw [hcellE, e9]
  exact a1
/-- what is alike answers alike -/
theorem e_same {a : Int32} {off : Int} {tgt : Nat} (hd : decode M.2.1 pc = .ok (.if_icmp .eq off, 3)) (ht : (pc : Int) + off = (tgt : Int)) (kt : kE G M d c0 s0 tgt L st h n Post) : kE G M d c0 s0 pc L (.int a :: .int a :: st) h n Post := by
  intro p l e R s m args below meth c H locs cells slots Q ls X hL hH hS hc hs hr
  exact lv_icmp_eq (tgt := tgt) X.1 X.2.1 hd ht (fun _ => kt p l e R s m args below meth c H locs cells slots Q ls X hL hH hS hc hs hr) (fun q => absurd rfl q)
theorem e_samel {a : Int64} {off : Int} {tgt : Nat} (hd : decode M.2.1 pc = .ok (.lcmp, 1)) (hd2 : decode M.2.1 (pc + 1) = .ok (.ifCond .eq off, 3)) (ht : ((pc + 1 : Nat) : Int) + off = (tgt : Int)) (kt : kE G M d c0 s0 tgt L st h n Post) : kE G M d c0 s0 pc L (.long a :: .long a :: st) h n Post := by
  intro p l e R s m args below meth c H locs cells slots Q ls X hL hH hS hc hs hr
  refine W.lcmp X.1 X.2.1 hd ?_
  have e9 : lg_cmp a a = jI 0 := by
    unfold lg_cmp
    rw [if_neg Int64.lt_irrefl, if_pos rfl]
    decide
  rw [e9]
  exact e_if_eq hd2 ht ⟨by decide, by decide⟩ (fun _ => kt) (fun q => absurd rfl q) p l e R s m args below meth c H locs cells slots Q ls X hL hH hS hc hs hr
end KN
