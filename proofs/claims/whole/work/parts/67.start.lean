/-! THE LAW'S START. THE CLAIM OUT OF ONE WALK OF THE LAW'S BODY. Your part is whole_start (and what it stands on); all else here is the same for every law, but numbers. -/
def R_law : String := "KingsInchesLaw"
def lw_P (b : Addr) (xs : List Int32) (args : Array Value) (s : State) : Prop := args = #[.ref b] ∧ s.IntsAt b xs ∧ xs.length ≤ 4608 ∧ (Jvm.Cond.and given_1 narrow_1).before args s = true
def lw_Q (_ : Array Value) (s : State) (o : Outcome) (t : State) : Prop := o = .returned (some (.int 1)) ∧ Framed s o t [] 600000 7302250
def lw_Z (below : List Frame) (a : Array Value) (s : State) : State → Prop := fun t => ∃ o, t.status = .running ∧ Ended t below o ∧ lw_Q a s o t
/-- the law's own end, with 1 on the stack, nothing written that was there before, its room as the claim has it -/
theorem lw_ret {p : Program} {l : Launch} {e : Env} {s : State} {m : MethodId} {below : List Frame} {meth : Method} {c : Code} {b : Nat} (hx : p.tables.exec = Jvm.exec) (hb : c.code = code) (hr : meth.sig.returnType = ret) (hlocks : meth.locks = false) {pc : Nat} {H : Heap} {ls : Array Slot} (hdg : decode code pc = .ok (.ireturn, 1)) : W p l e room_1 s m #[Value.ref b] below meth c H [] 600000 7302250 (lw_Z below #[Value.ref b] s) (F0 m pc ls [.int 1]) := by
  intro T hT X
  obtain ⟨fs, hret, hrun, hended, hW, hframe⟩ := X.leave (v := some (.int 1)) (hlocks := hlocks) (fun h => by rw [hr] at h; cases h)
  have hmeth' : T.vm.method? m = some meth := X.method'
  refine ⟨T.setFrames fs, ?_, .returned (some (.int 1)), hrun, hended, rfl, ⟨_, rfl⟩, hW, hframe⟩
  jvm_step X.here [X.here.top, hx, hb, hdg, hmeth', hr, ret, narrow_b1]
  (try refine ⟨rfl, ?_⟩); (try refine ⟨rfl, ?_⟩)
  first | (intro acts; rw [hret _ acts rfl rfl rfl]) | rw [hret _ _ rfl rfl rfl]
  exact Steps.refl _
/-- what holds at the law's entry: the machine, the code, the tables' words (any of lw_tbl by 'hts w (by decide +kernel)'), the script of L ints xs at the cell b, what the Statement gives of the start (any of its parts by flat_of_before) -/
def lw_At (p : Program) (s : State) (m : MethodId) (meth : Method) (c : Code) (b L : Nat) (xs : Nat → Int32) : Prop :=
  p.tables.exec = Jvm.exec ∧ c.code = code ∧ meth.sig.returnType = ret ∧ c.maxLocals = 4 ∧ s.vm.findClass R_law = some m.cls ∧ (∀ w ∈ lw_tbl, w.before #[Value.ref b] s = true) ∧ va_X b L xs s s.heap ∧ b < s.heap.size ∧ meth.locks = false ∧ (Jvm.Cond.and given_1 narrow_1).before #[Value.ref b] s = true ∧ meth.name = "law"
/-- an int table that the start tells of -/
theorem kTof {args : Array Value} {s : State} {tm : Term} {N : Nat} {f : Nat → Int32} (hN : N < 2 ^ 31) (harr : (Cond.arrayOf tm .int).before args s = true) (hlen : (Term.length tm).eval args s none [] s = some (.int (Int32.ofNat N))) (hel : ∀ j : Nat, j < N → (Term.elem tm (.int (Int32.ofNat j))).eval args s none [] s = some (.int (f j))) : ∃ (t : Nat) (cell : Cell), tm.eval args s none [] s = some (.ref t) ∧ s.heap[t]? = some cell ∧ s.isArrayOf cell .int ∧ cell.vm ≠ .unknown ∧ cell.slots.size = N ∧ ∀ j : Nat, j < N → cell.slots[j]? = some (.int (f j)) := by
  obtain ⟨t, cell, ht, hat, hv⟩ := Term.length_spec hlen
  obtain ⟨hcell, hkn, -, -⟩ := State.arrayAt?_spec hat
  obtain ⟨hof, -⟩ := Cond.arrayOf_spec harr ht hcell
  have hb : cell.slots.size < 2 ^ 31 := by
    simp only [Term.eval, Option.bind_eq_bind, ht, Option.bind_some, hat] at hlen
    by_cases hn : cell.slots.size < 2147483648
    · exact hn
    · rw [if_neg hn] at hlen
      cases hlen
  have hsz : cell.slots.size = N := by
    have e := congrArg Int32.toNatClampNeg (Value.int.inj hv)
    rw [Int32.toNatClampNeg_ofNat_of_lt hN] at e
    have e2 : cell.slots.size.toInt32.toNatClampNeg = cell.slots.size := Int32.toNatClampNeg_ofNat_of_lt hb
    rw [e2] at e
    exact e.symm
  refine ⟨t, cell, ht, hcell, hof, hkn, hsz, fun j hj => ?_⟩
  obtain ⟨a, i, cell2, h1, h2, h3, h4, h5⟩ := Term.elem_spec (hel j hj)
  cases ht.symm.trans h1
  cases hat.symm.trans h3
  have hi : Int32.ofNat j = i := Value.int.inj (Option.some.inj h2)
  rw [← hi, Int32.toNatClampNeg_ofNat_of_lt (Nat.lt_trans hj hN)] at h5
  exact h5
theorem kArr9 {args : Array Value} {s : State} (h : (Cond.arrayOver (.array .int)).before args s = true) : ∃ (comp c : ClassId) (k : Class), s.vm.classes[c]? = some k ∧ k.kind = .array comp (.array .int) ∧ s.vm.findClass ("[" ++ (FieldType.array .int).toString) = some c := by
  simp only [Cond.before, Cond.holds, Cond.value, beq_iff_eq] at h
  cases hc : s.vm.findClass (FieldType.array .int).toString with
  | none => simp [hc] at h
  | some comp =>
    simp only [hc, Option.bind_some, Option.bind_eq_some_iff, Option.map_eq_some_iff] at h
    obtain ⟨c, hi, k, hk, hb⟩ := h
    cases hkind : k.kind with
    | array component ty =>
      rw [hkind] at hb
      simp at hb
      exact ⟨component, c, k, hk, by rw [hkind, hb.1], hb.2⟩
    | _ => rw [hkind] at hb; simp at hb
def kCn (c0 c1 c2 c3 c4 c5 c6 c7 c8 : ClassId) : Nat → ClassId
  | 0 => c0
  | 1 => c1
  | 2 => c2
  | 3 => c3
  | 4 => c4
  | 5 => c5
  | 6 => c6
  | 7 => c7
  | _ => c8
def kIn9 (c0 c1 c2 c3 c4 c5 c6 c7 c8 : Nat → Nat) : Nat → Nat → Nat
  | 0 => c0
  | 1 => c1
  | 2 => c2
  | 3 => c3
  | 4 => c4
  | 5 => c5
  | 6 => c6
  | 7 => c7
  | _ => c8
def kAn (c0 c1 c2 c3 c4 c5 : ClassId) : Nat → ClassId
  | 0 => c0
  | 1 => c1
  | 2 => c2
  | 3 => c3
  | 4 => c4
  | _ => c5
def kSa (t0 t1 t2 t3 : Nat) : Nat → Nat
  | 0 => t0
  | 1 => t1
  | 2 => t2
  | _ => t3
theorem arrT9 {s : State} {c comp : ClassId} {k : Class} {ty : FieldType} (hk : s.vm.classes[c]? = some k) (hkind : k.kind = .array comp ty) : ArrOfT s c ty := fun N z => ⟨(fun k h => by cases h), k, hk, comp, hkind⟩
theorem whole_K {s : State} {args : Array Value} (hts : ∀ w ∈ lw_tbl, w.before args s = true) : ∃ (D : va_G) (cA : Nat → ClassId), va_K D vwCl (ktys cA) s ∧ s.vm.findClass ("[" ++ FieldType.int.toString) = some (cA 0) := by
  have hk : ∀ {ci : Nat} {C : String} {T : u_T} {N : Nat} {ty0 : Nat → FieldType}, kCl ci C T N ty0 → ∃ (cC : ClassId) (iS : Nat → Nat), u_Kn s C T N cC iS := fun q => u_known hts (fun w hw => (q.2.1 w hw).1) (hts _ q.2.2.2.2.1)
  obtain ⟨c0, i0, k0⟩ := hk clX0
  obtain ⟨c1, i1, k1⟩ := hk clX2
  obtain ⟨c2, i2, k2⟩ := hk clX3
  obtain ⟨c3, i3, k3⟩ := hk clX4
  obtain ⟨c4, i4, k4⟩ := hk clX6
  obtain ⟨c5, i5, k5⟩ := hk clX7
  obtain ⟨c6, i6, k6⟩ := hk clX8
  obtain ⟨c7, i7, k7⟩ := hk clX9
  obtain ⟨c8, i8, k8⟩ := hk clX10
  obtain ⟨a0, m0, p0, f0, g0, e0⟩ := Cond.arrayClass_spec (hts _ ka_int.1)
  obtain ⟨a1, m1, p1, f1, g1, e1⟩ := Cond.arrayClass_spec (hts _ ka_long.1)
  obtain ⟨a2, m2, p2, f2, g2, e2⟩ := Cond.arrayClass_spec (hts _ ka_boolean.1)
  obtain ⟨p3, a3, m3, b3, -, g3, e3, f3⟩ := Cond.arrayOver_spec (hts _ (kNst_in _ la_1))
  obtain ⟨p4, a4, m4, b4, -, g4, e4, f4⟩ := Cond.arrayOver_spec (hts _ (kNst_in _ la_7))
  obtain ⟨p5, a5, m5, g5, e5, f5⟩ := kArr9 (hts _ (kNst_in _ la_8))
  refine ⟨(kCn c0 c1 c2 c3 c4 c5 c6 c7 c8, kIn9 i0 i1 i2 i3 i4 i5 i6 i7 i8), kAn a0 a1 a2 a3 a4 a5, ⟨fun c q hq => ?_, fun k q hq => ?_⟩, f0⟩
  · match c, hq with
    | 0, hq => cases clX0.1.symm.trans hq; exact k0
    | 1, hq => cases clX2.1.symm.trans hq; exact k1
    | 2, hq => cases clX3.1.symm.trans hq; exact k2
    | 3, hq => cases clX4.1.symm.trans hq; exact k3
    | 4, hq => cases clX6.1.symm.trans hq; exact k4
    | 5, hq => cases clX7.1.symm.trans hq; exact k5
    | 6, hq => cases clX8.1.symm.trans hq; exact k6
    | 7, hq => cases clX9.1.symm.trans hq; exact k7
    | 8, hq => cases clX10.1.symm.trans hq; exact k8
    | n + 9, hq => exact absurd (show (none : Option vw_C) = some q from hq) (fun z => by cases z)
  · match k, hq with
    | 0, hq => cases hq; exact ⟨arrT9 g0 e0, f0⟩
    | 1, hq => cases hq; exact ⟨arrT9 g1 e1, f1⟩
    | 2, hq => cases hq; exact ⟨arrT9 g2 e2, f2⟩
    | 3, hq => cases hq; exact ⟨arrT9 g3 e3, m3, p3, g3, e3, b3, f3⟩
    | 4, hq => cases hq; exact ⟨arrT9 g4 e4, m4, p4, g4, e4, b4, f4⟩
    | 5, hq => cases hq; exact ⟨arrT9 g5 e5, f5⟩
    | n + 6, hq => exact absurd (show (none : Option (ClassId × FieldType)) = some q from hq) (fun z => by cases z)
theorem tof_MOST_WAY {s : State} {b : Nat} (hs : ∀ w ∈ flatC (Jvm.Cond.and given_1 narrow_1), w.before #[Value.ref b] s = true) : ∃ (t : Nat) (cell : Cell), (Term.static RX9 "MOST_WAY" "[I").eval #[Value.ref b] s none [] s = some (.ref t) ∧ s.heap[t]? = some cell ∧ s.isArrayOf cell .int ∧ cell.vm ≠ .unknown ∧ cell.slots.size = 5 ∧ ∀ j : Nat, j < 5 → cell.slots[j]? = some (.int (jI (kMW j))) := by
  refine kTof (by decide) (hs (Cond.arrayOf (.static RX9 "MOST_WAY" "[I") .int) (by decide +kernel)) (va_eqt (hs (Cond.eq (.length (.static RX9 "MOST_WAY" "[I")) (.int 5)) (by decide +kernel))) (fun j hj => ?_)
  match j, hj with
    | 0, _ => exact va_eqt (hs (Cond.eq (.elem (.static RX9 "MOST_WAY" "[I") (.int 0)) (.int (jI (kMW 0)))) (by decide +kernel))
    | 1, _ => exact va_eqt (hs (Cond.eq (.elem (.static RX9 "MOST_WAY" "[I") (.int 1)) (.int (jI (kMW 1)))) (by decide +kernel))
    | 2, _ => exact va_eqt (hs (Cond.eq (.elem (.static RX9 "MOST_WAY" "[I") (.int 2)) (.int (jI (kMW 2)))) (by decide +kernel))
    | 3, _ => exact va_eqt (hs (Cond.eq (.elem (.static RX9 "MOST_WAY" "[I") (.int 3)) (.int (jI (kMW 3)))) (by decide +kernel))
    | 4, _ => exact va_eqt (hs (Cond.eq (.elem (.static RX9 "MOST_WAY" "[I") (.int 4)) (.int (jI (kMW 4)))) (by decide +kernel))
    | n + 5, hj => exact absurd hj (by omega)
theorem tof_FIRST_ENTRY {s : State} {b : Nat} (hs : ∀ w ∈ flatC (Jvm.Cond.and given_1 narrow_1), w.before #[Value.ref b] s = true) : ∃ (t : Nat) (cell : Cell), (Term.static RX9 "FIRST_ENTRY" "[I").eval #[Value.ref b] s none [] s = some (.ref t) ∧ s.heap[t]? = some cell ∧ s.isArrayOf cell .int ∧ cell.vm ≠ .unknown ∧ cell.slots.size = 3 ∧ ∀ j : Nat, j < 3 → cell.slots[j]? = some (.int (jI (kFE j))) := by
  refine kTof (by decide) (hs (Cond.arrayOf (.static RX9 "FIRST_ENTRY" "[I") .int) (by decide +kernel)) (va_eqt (hs (Cond.eq (.length (.static RX9 "FIRST_ENTRY" "[I")) (.int 3)) (by decide +kernel))) (fun j hj => ?_)
  match j, hj with
    | 0, _ => exact va_eqt (hs (Cond.eq (.elem (.static RX9 "FIRST_ENTRY" "[I") (.int 0)) (.int (jI (kFE 0)))) (by decide +kernel))
    | 1, _ => exact va_eqt (hs (Cond.eq (.elem (.static RX9 "FIRST_ENTRY" "[I") (.int 1)) (.int (jI (kFE 1)))) (by decide +kernel))
    | 2, _ => exact va_eqt (hs (Cond.eq (.elem (.static RX9 "FIRST_ENTRY" "[I") (.int 2)) (.int (jI (kFE 2)))) (by decide +kernel))
    | n + 3, hj => exact absurd hj (by omega)
theorem tof_LEAST_ENTRY {s : State} {b : Nat} (hs : ∀ w ∈ flatC (Jvm.Cond.and given_1 narrow_1), w.before #[Value.ref b] s = true) : ∃ (t : Nat) (cell : Cell), (Term.static RX9 "LEAST_ENTRY" "[I").eval #[Value.ref b] s none [] s = some (.ref t) ∧ s.heap[t]? = some cell ∧ s.isArrayOf cell .int ∧ cell.vm ≠ .unknown ∧ cell.slots.size = 3 ∧ ∀ j : Nat, j < 3 → cell.slots[j]? = some (.int (jI (kLE j))) := by
  refine kTof (by decide) (hs (Cond.arrayOf (.static RX9 "LEAST_ENTRY" "[I") .int) (by decide +kernel)) (va_eqt (hs (Cond.eq (.length (.static RX9 "LEAST_ENTRY" "[I")) (.int 3)) (by decide +kernel))) (fun j hj => ?_)
  match j, hj with
    | 0, _ => exact va_eqt (hs (Cond.eq (.elem (.static RX9 "LEAST_ENTRY" "[I") (.int 0)) (.int (jI (kLE 0)))) (by decide +kernel))
    | 1, _ => exact va_eqt (hs (Cond.eq (.elem (.static RX9 "LEAST_ENTRY" "[I") (.int 1)) (.int (jI (kLE 1)))) (by decide +kernel))
    | 2, _ => exact va_eqt (hs (Cond.eq (.elem (.static RX9 "LEAST_ENTRY" "[I") (.int 2)) (.int (jI (kLE 2)))) (by decide +kernel))
    | n + 3, hj => exact absurd hj (by omega)
theorem tof_MOST_ENTRY {s : State} {b : Nat} (hs : ∀ w ∈ flatC (Jvm.Cond.and given_1 narrow_1), w.before #[Value.ref b] s = true) : ∃ (t : Nat) (cell : Cell), (Term.static RX9 "MOST_ENTRY" "[I").eval #[Value.ref b] s none [] s = some (.ref t) ∧ s.heap[t]? = some cell ∧ s.isArrayOf cell .int ∧ cell.vm ≠ .unknown ∧ cell.slots.size = 3 ∧ ∀ j : Nat, j < 3 → cell.slots[j]? = some (.int (jI (kME j))) := by
  refine kTof (by decide) (hs (Cond.arrayOf (.static RX9 "MOST_ENTRY" "[I") .int) (by decide +kernel)) (va_eqt (hs (Cond.eq (.length (.static RX9 "MOST_ENTRY" "[I")) (.int 3)) (by decide +kernel))) (fun j hj => ?_)
  match j, hj with
    | 0, _ => exact va_eqt (hs (Cond.eq (.elem (.static RX9 "MOST_ENTRY" "[I") (.int 0)) (.int (jI (kME 0)))) (by decide +kernel))
    | 1, _ => exact va_eqt (hs (Cond.eq (.elem (.static RX9 "MOST_ENTRY" "[I") (.int 1)) (.int (jI (kME 1)))) (by decide +kernel))
    | 2, _ => exact va_eqt (hs (Cond.eq (.elem (.static RX9 "MOST_ENTRY" "[I") (.int 2)) (.int (jI (kME 2)))) (by decide +kernel))
    | n + 3, hj => exact absurd hj (by omega)
set_option maxHeartbeats 4000000 in
theorem whole_start {p : Program} {e : Env} {s : State} {m : MethodId} {below : List Frame} {meth : Method} {c : Code} (l : Launch) (hflags : l.flags = flags0) {b L : Nat} {xs : Nat → Int32} (hL : L ≤ 4608) (C0 : lw_At p s m meth c b L xs) : W p l e room_1 s m #[Value.ref b] below meth c s.heap [] 0 0 (lw_Z below #[Value.ref b] s) (entryFrame m ([Value.ref b] : List Value).toArray 4) := by
  obtain ⟨hx, hbc, hrt, hml, hown, hts, ⟨scr, x1, x2, x3, x4, x5⟩, hbl, hlk, hgv, hnm⟩ := C0
  have hs := flat_of_before _ hgv
  obtain ⟨D, cA, hK, hI⟩ := whole_K hts
  obtain ⟨r0, d0, t0, e0, o0, u0, n0, q0⟩ := tof_MOST_WAY hs
  obtain ⟨r1, d1, t1, e1, o1, u1, n1, q1⟩ := tof_FIRST_ENTRY hs
  obtain ⟨r2, d2, t2, e2, o2, u2, n2, q2⟩ := tof_LEAST_ENTRY hs
  obtain ⟨r3, d3, t3, e3, o3, u3, n3, q3⟩ := tof_MOST_ENTRY hs
  have lt0 : r0 < s.heap.size := (Array.getElem?_eq_some_iff.mp e0).1
  have lt1 : r1 < s.heap.size := (Array.getElem?_eq_some_iff.mp e1).1
  have lt2 : r2 < s.heap.size := (Array.getElem?_eq_some_iff.mp e2).1
  have lt3 : r3 < s.heap.size := (Array.getElem?_eq_some_iff.mp e3).1
  have hex := Cond.exactly_spec (hs (Cond.exactly (.static RX9 "FIRST_ENTRY" "[I") "[I") (by decide +kernel))
  obtain ⟨a9, c9, cell9, k9, w1, w2, w3, w4, w5, w6, -⟩ := hex
  cases t1.symm.trans w1
  cases e1.symm.trans w3
  have hI2 : s.vm.findClass "[I" = some (cA 0) := hI
  cases hI2.symm.trans w2
  have hA : ∀ a : Nat, a < s.heap.size → ¬ s.heap.size ≤ a := fun a h => Nat.not_le.mpr h
  let G : kG := (s.heap.size, D, cA, [(r0, 5, fun j => jI (kMW j)), (r1, 3, fun j => jI (kFE j)), (r2, 3, fun j => jI (kLE j)), (r3, 3, fun j => jI (kME j)), (b, L, fun j => jI ((xs j).toInt))], kSa r0 r1 r2 r3)
  have hpre : kPre G s := by
    refine ⟨fun w hw => ?_, hK, fun k q hq => ?_, fun k nm hq => ?_, ⟨d1, e1, lt1, w6, w5⟩, Nat.le_refl _⟩
    · have h0 := hts w (kNst_in w hw)
      simp only [kNst, List.mem_cons, List.not_mem_nil, or_false] at hw
      rcases hw with rfl | rfl | rfl | rfl | rfl | rfl | rfl | rfl | rfl | rfl | rfl | rfl | rfl | rfl | rfl | rfl <;> first | exact va_Nw.of rfl h0 | exact h0
    · match k, hq with
      | 0, hq => cases hq; exact ⟨d0, e0, lt0, o0, u0, n0, (show 5 < 2 ^ 31 by decide), q0⟩
      | 1, hq => cases hq; exact ⟨d1, e1, lt1, o1, u1, n1, (show 3 < 2 ^ 31 by decide), q1⟩
      | 2, hq => cases hq; exact ⟨d2, e2, lt2, o2, u2, n2, (show 3 < 2 ^ 31 by decide), q2⟩
      | 3, hq => cases hq; exact ⟨d3, e3, lt3, o3, u3, n3, (show 3 < 2 ^ 31 by decide), q3⟩
      | 4, hq => cases hq; exact ⟨scr, x1, hbl, x2, x3, x4, (show L < 2 ^ 31 by omega), fun j hj => by rw [x5 j hj]; exact congrArg (fun v => some (Value.int v)) (jI_of _).symm⟩
      | n + 5, hq => exact absurd (show (none : Option (Nat × Nat × (Nat → Int32))) = some q from hq) (fun z => by cases z)
    · match k, hq with
      | 0, hq => cases hq; exact va_Zref (hts _ kx_ls_MOST_WAY) (hts _ wi_RX9.1) t0 hA
      | 1, hq => cases hq; exact va_Zref (hts _ kx_ls_FIRST_ENTRY) (hts _ wi_RX9.1) t1 hA
      | 2, hq => cases hq; exact va_Zref (hts _ kx_ls_LEAST_ENTRY) (hts _ wi_RX9.1) t2 hA
      | 3, hq => cases hq; exact va_Zref (hts _ kx_ls_MOST_ENTRY) (hts _ wi_RX9.1) t3 hA
      | n + 4, hq => exact absurd (show (none : Option String) = some nm from hq) (fun z => by cases z)
  have hl := l_law (G := G) (b := b) (N := L) (X := fun j => (xs j).toInt) ⟨rfl, rfl, rfl, rfl⟩ rfl (fun j => inI_of _) hL
  have hml' : c.maxLocals = mL_law.2.2.1 := hml
  rw [lg_entry_eq]
  refine hl p l e room_1 s m #[Value.ref b] below meth c s.heap [] 0 0 _ _ ⟨hx, hbc, hml', hown, hnm, fun w hw => hts w (List.mem_filter.mp hw).1, hpre, Nat.le_refl _, Nat.le_refl _⟩ (kEnt_lv (show 1 ≤ 4 by decide)) ⟨rfl, fun i e9 h9 => by cases h9⟩ va_S.rf (by decide) (by decide) ?_
  intro H' locs' cells' slots' ls' pc' r h' n' i hP hH' hS' hc' hs' hri hd
  subst hP
  refine va_forget (fun q hq => hS'.2.2 q hq) ?_
  refine W.widen (k := 600000) (n := 7302250) hc' hs' ?_
  rcases hri with ⟨v, ty, y1, y2, y3, y4⟩ | ⟨v, y1, y2, y4⟩ | ⟨v, nm, y1, y2, y3, y4⟩ | ⟨y1, y2, y4⟩
  · subst y4
    exact lw_ret hx hbc hrt hlk hd
  · cases y2
  · cases y1
  · cases y2
set_option maxHeartbeats 4000000 in
theorem lw_walk (l : Launch) (hflags : l.flags = flags0) (b : Addr) (xs : List Int32) : MetFree l x (headSpec (Jvm.Cond.code x code maxLocals ret :: tables_1) room_1) (lw_P b xs) (fun _ _ _ _ _ => True) lw_Q := by
  refine MetFree.of_bodyS (code := code) (maxLocals := maxLocals) (ret := ret) (by decide) ?_ ?_
  · intro args s m h hn
    obtain ⟨meth, c, h1, h2, h3, h4, h5, h6, -, -⟩ := Cond.code_spec hn (atoms_spec (ws := Jvm.Cond.code x code maxLocals ret :: tables_1) h _ List.mem_cons_self)
    exact ⟨meth, c, h1, h2, h3, h4, h5, h6⟩
  · intro p e s m args below meth c s₁ B hml0 hP _
    obtain ⟨rfl, hx, hbd, hgv⟩ := hP
    obtain ⟨scr, harrAt, hlist, hof, hsmall⟩ := hx
    obtain ⟨hcb, hkn, -, -⟩ := State.arrayAt?_spec harrAt
    have hown : s.vm.findClass R_law = some m.cls := findClass_of_methodNamed B.named
    have hts0 : ∀ c ∈ (Jvm.Cond.code x code maxLocals ret :: tables_1), c.before #[Value.ref b] s = true := atoms_spec (ws := Jvm.Cond.code x code maxLocals ret :: tables_1) B.pre
    have hts : ∀ w ∈ lw_tbl, w.before #[Value.ref b] s = true := k2_hts_sels lw_privs (fun w hw => hts0 w (List.mem_cons_of_mem _ hw)) lw_privs_ok
    have hml : c.maxLocals = 4 := B.maxLocals_eq (hts0 _ List.mem_cons_self)
    have X₀ : Stand p l e room_1 s m #[Value.ref b] below meth c s₁ [] 0 0 := Stand.of_body B
    have hh0 : s₁.heap = s.heap := by rw [B.state]; rfl
    have hsz : scr.slots.size = xs.length := by rw [← Array.length_toList, hlist, List.length_map]
    have hval : ∀ j : Nat, j < xs.length → scr.slots[j]? = some (.int (xs.getD j 0)) := fun j hj => by
      rw [← Array.getElem?_toList, hlist]
      simp [hj]
    have hbl : b < s.heap.size := (Array.getElem?_eq_some_iff.mp hcb).1
    have hX : va_X b xs.length (fun j => xs.getD j 0) s s.heap := ⟨scr, hcb, hof, hkn, hsz, hval⟩
    have K : W p l e room_1 s m #[Value.ref b] below meth c s₁.heap [] 0 0 (lw_Z below #[Value.ref b] s) (entryFrame m ([Value.ref b] : List Value).toArray 4) := by
      rw [hh0]
      exact whole_start l hflags hbd ⟨B.exec, B.bytes, B.returns, hml, hown, hts, hX, hbl, B.notSynchronized, hgv, (name_of_methodNamed B.named B.method).1⟩
    obtain ⟨t, a1, o, b1, b2, b3⟩ := K s₁ rfl X₀
    exact ⟨t, o, a1, b1, b2, b3⟩
theorem lw_pre_spec {args : Array Value} {s : State} (h : (Jvm.Cond.and given_1 narrow_1).before args s = true) (hr : rest_1_c.before args s = true) : ∃ (b : Addr) (xs : List Int32), lw_P b xs args s := by
  have hs := flat_of_before _ h
  have hq := flat_of_before _ hr
  have hc : (Cond.count 1).before args s = true := hs _ (by decide +kernel)
  have harr : (Cond.arrayOf (.arg 0) .int).before args s = true := hs _ (by decide +kernel)
  have hle : (Cond.le (.length (.arg 0)) (.int 4608)).before args s = true := hs _ (by decide +kernel)
  have hlen : (Cond.isInt (.length (.arg 0))).before args s = true := hq _ (by decide +kernel)
  have hall : (Cond.all (.arg 0) (.isInt (.elem (.arg 0) (.index 0)))).before args s = true := hq _ (by decide +kernel)
  obtain ⟨b, xs, hb, hx⟩ := State.ints_of_pre rfl harr hlen hall
  have hsm : xs.length < 2 ^ 31 := hx.choose_spec.2.2.2
  have hev : (Term.length (.arg 0)).eval args s none [] s = some (.int xs.length.toInt32) := hx.length_eval hb
  have hv := Cond.le_ints hev (show (Term.int 4608).eval args s none [] s = some (.int 4608) from rfl)
  have hd : xs.length.toInt32 ≤ 4608 := by
    simpa [Cond.before, Cond.holds, hv] using hle
  have hN : xs.length ≤ 4608 := (Int32.ofNat_le_ofNat hsm (by decide)).mp (show Int32.ofNat xs.length ≤ Int32.ofNat 4608 from hd)
  exact ⟨b, xs, Cond.one_arg hc (show args[0]? = some (.ref b) from hb), hx, hN, h⟩
theorem lw_comes (l : Launch) (hflags : l.flags = flags0) : Comes l x (Jvm.Cond.code x code maxLocals ret :: tables_1) room_1 (fun tb e args s => Calls_1 tb e args s ∧ rest_1 tb e args s ∧ Pre_1 tb e args s)
    (fun _ _ args s o t => lw_Q args s o t) := by
  intro p e ha hc hk s m args below hf hfit hheap happ hpre
  obtain ⟨b, xs, hP⟩ := lw_pre_spec hpre.2.2 hpre.2.1
  obtain ⟨k, o, h1, h2, h3, hQ⟩ := lw_walk l hflags b xs p e ha hc hk s m args below hf ((Spec.applies_iff_loose hf).mp happ).1 hP trivial
  exact ⟨k, o, h1, h2, h3, hQ⟩
theorem lw_frame {s t : State} {o : Outcome} {args : Array Value} (h : Framed s o t [] 600000 7302250) :
    Framed s o t (fieldLocs frame_1_writes args s ++ arrayLocs frame_1_arrays args s ++ staticLocs frame_1_statics s) 600000 7302250 := h
theorem lw_limb (L : Cond) (hL : ∀ (args : Array Value) (s t : State), L.after args s (.returned (some (.int 1))) t = true) :
    ArmFor flags0 classFile x code maxLocals ret World_1 tables_1 room_1 Calls_1 rest_1 Pre_1
      (fun tb e a s o t => postC L tb e a s o t ∧ Framed s o t (fieldLocs frame_1_writes a s ++ arrayLocs frame_1_arrays a s ++ staticLocs frame_1_statics s) 600000 7302250) := by
  intro l hflags _ _ p e ha hc hk s m args below hf hfit hheap happ hpre
  obtain ⟨k, o, h1, h2, h3, rfl, hF⟩ := lw_comes l hflags p e ha hc hk s m args below hf hfit hheap happ hpre
  exact ⟨k, _, h1, h2, h3, hL args s _, lw_frame hF⟩
theorem i_vc : Claimed_1_1 ∧ Claimed_1_2 := ⟨lw_limb limb_1_1 (fun args s t => by simp [limb_1_1, Cond.after, Cond.holds, Cond.value]), lw_limb limb_1_2 (fun args s t => Cond.after_iff.mpr (by
  first | (rw [show limb_1_2 = Cond.eq .result (.int 1) from rfl, Cond.eq_ints (x := 1) (y := 1) rfl rfl]; simp; done) | (simp [limb_1_2, Cond.value, Term.eval]; done)))⟩
