/-! new int[n][m] (needs the whole library) -/
section KX
variable {G : kG} {M M' : kM} {d c0 s0 pc np idx : Nat} {L : List (Option Value)} {st : List Value} {h h1 : Nat → Option kC} {n n1 : Nat} {Post : kPo} {r : Option Value}
theorem k_outer (c : ClassId) (N h0 : Nat) : ∀ i : Nat, Jvm.Free.Multi.outerC c N h0 i = arrV c N (fun j => va_rf (if j < i then some (h0 + 1 + j) else none))
  | 0 => by
    show ({ cls := c, slots := Array.replicate N .null, vm := .none } : Cell) = _
    rw [arrV_new]
    refine congrArg (arrV c N) (funext fun j => ?_)
    simp [va_rf]
  | i + 1 => by
    show (Jvm.Free.Multi.outerC c N h0 i).setSlot i (.ref (h0 + 1 + i)) = _
    rw [k_outer c N h0 i, arrV_store]
    refine congrArg (arrV c N) (funext fun j => ?_)
    by_cases e : j = i
    · subst e
      simp [updV, va_rf]
    · by_cases h : j < i
      · simp [updV, e, h, Nat.lt_succ_of_lt h]
      · simp [updV, e, h, show ¬ j < i + 1 by omega]
def kup9 (h : Nat → Option kC) (n N K : Nat) (B : Nat) : Nat → Option kC := fun j => if j = n then some (kra 5 N (fun i => if i < N then some (B + (n + 1 + i)) else none)) else if n < j ∧ j < n + 1 + N then some (kia K (fun _ => 0)) else h j
theorem e_mna {a b : Int} (hw : kWd (.classLink M.1.cls idx "[[I")) (ho : Cond.arrayOver (.array .int) ∈ kNst) (hd : decode M.2.1 pc = .ok (.multianewarray idx 2, 4)) (h0 : 0 ≤ a) (h9 : a ≤ 1000) (g0 : 0 ≤ b) (g9 : b ≤ 1000) (kk : kE G M d c0 s0 (pc + 4) L (.ref (gB G + n) :: st) (kup9 h n a.toNat b.toNat (gB G)) (n + 1 + a.toNat) Post) : kE G M d (c0 + (1 + a.toNat)) (s0 + (a.toNat + a.toNat * b.toNat)) pc L (.int (jI b) :: .int (jI a) :: st) h n Post := by
  intro p l e R s m args below meth c H locs cells slots Q ls X hL hH hS hc hs hr
  obtain ⟨x1, x2, x3, x4, x5, x6, x7, x8, x9⟩ := id X
  have ca := jI_cl h0 (show a ≤ 2147483647 by omega)
  have cb := jI_cl g0 (show b ≤ 2147483647 by omega)
  have na : ¬ jI a < 0 := fun q => by rw [← jI_0] at q; have := (jI_lt ⟨by omega, by omega⟩ ⟨by decide, by decide⟩).mp q; omega
  have nb : ¬ jI b < 0 := fun q => by rw [← jI_0] at q; have := (jI_lt ⟨by omega, by omega⟩ ⟨by decide, by decide⟩).mp q; omega
  intro T hT XT
  obtain ⟨vm₁, cA, comp, -, fA, fC, hO, -, X', step⟩ := XT.multianewarray2F x1 x4 (ty := .int) (x6 _ (kWl_in hw)) (x7.1 _ ho) (x6 _ (kWl_in ka_int)) (g := F0 m pc ls (.int (jI b) :: .int (jI a) :: st)) rfl (by rw [x2]; exact hd) rfl na nb (by rw [ca]; omega) (by rw [cb]; show b.toNat * 4 ≤ _; omega) (by rw [cb]; omega) rfl rfl (by rw [ca]; omega) (by rw [ca, cb]; omega)
  have hcA : cA = gC G 5 := Option.some.inj (fA.symm.trans (x7.2.1.2 5 _ rfl).2)
  have hcm : comp = gC G 0 := Option.some.inj (fC.symm.trans (x7.2.1.2 0 _ rfl).2)
  subst hcA
  subst hcm
  rw [ca, cb] at X' step
  generalize hF : Jvm.Free.Multi.fill (T.setVm vm₁) (gC G 5) (gC G 0) a.toNat b.toNat (defaultValue .int) a.toNat = F at X' step
  have hTh : (T.setVm vm₁).heap = H := hT
  obtain ⟨f1, f2, -, -⟩ := Jvm.Free.Multi.fill_facts (T.setVm vm₁) (gC G 5) (gC G 0) a.toNat b.toNat (defaultValue .int) a.toNat
  rw [hF, hTh] at f1 f2
  have hold : ∀ x : Nat, x < H.size → F.heap[x]? = H[x]? := fun x hx => by
    have := Jvm.Free.Multi.fill_old (T.setVm vm₁) (gC G 5) (gC G 0) a.toNat b.toNat (defaultValue .int) (a := x) (by rw [hTh]; exact hx) a.toNat
    rw [hF, hTh] at this
    exact this
  have hrow : ∀ j : Nat, j < a.toNat → F.heap[H.size + 1 + j]? = some (arrV (gC G 0) b.toNat (fun _ => .int (jI 0))) := fun j hj => by
    have := Jvm.Free.Multi.fill_inner (T.setVm vm₁) (gC G 5) (gC G 0) a.toNat b.toNat (defaultValue .int) a.toNat j hj
    rw [hF, hTh] at this
    refine this.trans ?_
    show some ({ cls := gC G 0, slots := Array.replicate b.toNat (.int 0), vm := .none } : Cell) = _
    rw [arrV_new, ← jI_0]
  have hout : Jvm.Free.Multi.outerC (gC G 5) a.toNat H.size a.toNat = arrV (gC G 5) a.toNat (fun j => va_rf (if j < a.toNat then some (H.size + 1 + j) else none)) := k_outer _ _ _ _
  rw [hout] at f2
  have hHV : kHV G (kup9 h n a.toNat b.toNat (gB G)) (n + 1 + a.toNat) F.heap := by
    have hz := hH.1
    refine ⟨by rw [f1]; omega, fun j x hx => ?_⟩
    unfold kup9 at hx
    split at hx
    · rename_i e9
      subst e9
      cases hx
      refine ⟨by omega, ?_⟩
      show F.heap[gB G + j]? = some (vp_cell (gC G 5) (a.toNat, .inr (.inr (.inr (.inr _)))))
      rw [vp_cell_q, ← hz, f2]
      refine congrArg some (arrV_cong (fun q hq => ?_))
      rw [if_pos hq, if_pos hq, hz]
      congr 2
      omega
    · split at hx
      · rename_i h8 h7
        cases hx
        refine ⟨h7.2, ?_⟩
        show F.heap[gB G + j]? = some (vp_cell (gC G 0) (b.toNat, .inl _))
        rw [vp_cell_i, show gB G + j = H.size + 1 + (j - (n + 1)) by omega, hrow _ (by omega)]
      · have h6 := hH.2 _ _ hx
        exact ⟨by omega, h6.2.kept (hold _ (by show gB G + j < _; omega))⟩
  obtain ⟨t, a1, b1⟩ := kk p l e R s m args below meth c F.heap locs (cells + 1 + a.toNat) (slots + a.toNat + a.toNat * b.toNat) Q ls X hL hHV (kSz hH x7.2.2.2.2.2 hS (by rw [f1]; omega) hold) (by omega) (by omega) hr F rfl X'
  refine ⟨t, step t ?_, b1⟩
  have e9 : T.heap.size = gB G + n := by rw [hT]; exact hH.1
  rw [e9]
  exact a1
end KX
