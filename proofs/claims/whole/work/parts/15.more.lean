/-! rows copied whole, arrays of references, a static row's clone -/
section KX
variable {G : kG} {M M' : kM} {d c0 s0 pc np idx : Nat} {L : List (Option Value)} {st : List Value} {h h1 : Nat → Option kC} {n n1 : Nat} {Post : kPo} {r : Option Value}
theorem arrV_cong {cI : ClassId} {N : Nat} {f g : Nat → Value} (hfg : ∀ j, j < N → f j = g j) : arrV cI N f = arrV cI N g := by
  unfold arrV
  congr 1
  apply Array.ext
  · simp
  · intro j h1 h2
    simp only [Array.getElem_ofFn]
    exact hfg j (by simpa using h1)
theorem e_copy {i j N : Nat} {F F' : Nat → Int} (hl : kWd (.methodLink M.1.cls idx arraycopyName)) (hd : decode M.2.1 pc = .ok (.invokestatic idx, 3)) (hi : h i = some (kia N F)) (hj : h j = some (kia N F')) (hrm : Nat.ble (st.map fun v => v.category).sum 8 = true) (kk : kE G M (d + 1) c0 s0 (pc + 3) L st (kup h j (kia N F)) n Post) (hN : N < 2147483648 := by decide) : kE G M (d + 1) c0 s0 pc L (.int (jI N) :: .int (jI 0) :: .ref (gB G + j) :: .int (jI 0) :: .ref (gB G + i) :: st) h n Post := by
  intro p l e R s m args below meth c H locs cells slots Q ls X hL hH hS hc hs hr
  obtain ⟨x1, x2, x3, x4, x5, x6, x7, x8, x9⟩ := id X
  have hrm9 := Nat.le_of_ble_eq_true hrm
  have hK := x7.2.1
  have hc0 : H[gB G + i]? = some (vp_cell (gC G 0) (N, .inl (fun q => jI (F q)))) := hH.at hi
  have hc1 : H[gB G + j]? = some (vp_cell (gC G 0) (N, .inl (fun q => jI (F' q)))) := hH.at hj
  have z0 : ¬ jI 0 < 0 := by decide
  have hz : inI 0 := ⟨by decide, by decide⟩
  have hNi : inI (N : Int) := ⟨by omega, by omega⟩
  have zN : ¬ jI N < 0 := fun q => by rw [← jI_0] at q; have := (jI_lt hNi hz).mp q; omega
  have cN : (jI N).toNatClampNeg = N := by rw [jI_cl (by omega) (by omega)]; omega
  have c00 : (jI 0).toNatClampNeg = 0 := by decide
  have hnf : nativeFrameWords "java/lang/System" "arraycopy" 5 ≤ 20 := by decide
  intro T hT XT
  obtain ⟨-, k0, hk0, cm0, hkk0⟩ := (hK.2 0 _ rfl).1 N (fun j => .int (jI (F j)))
  obtain ⟨vm', X', step⟩ := XT.arraycopy x1 x4 (x6 _ (kWl_in hl)) (x6 _ (kWl_in kx_cpN)) (x6 _ (kWl_in kx_cpS)) (x6 _ (kWl_in wi_RJ10)) (src := gB G + i) (dst := gB G + j) (cs := vp_cell (gC G 0) (N, .inl (fun q => jI (F q)))) (cd := vp_cell (gC G 0) (N, .inl (fun q => jI (F' q)))) (srcPos := jI 0) (destPos := jI 0) (n := jI N) (by rw [hT]; exact hc0) (by rw [hT]; exact hc1)
    (fun _ h => by cases h) (fun _ h => by cases h) (fun h => by cases h) (fun h => by cases h) hk0 hk0 hkk0 hkk0 (by simp [refKind]) z0 z0 zN
    (by rw [jI_ti hz, jI_ti hNi]; show ¬ _ > ((arrV (gC G 0) N (fun j => .int (jI (F j)))).slots.size : Int); rw [arrV_size]; omega)
    (by rw [jI_ti hz, jI_ti hNi]; show ¬ _ > ((arrV (gC G 0) N (fun j => .int (jI (F' j)))).slots.size : Int); rw [arrV_size]; omega)
    (fun vm₁ _ q hq => by
      rw [cN] at hq
      have e9 : (vp_cell (gC G 0) (N, .inl (fun q => jI (F q)))).slots.getD ((jI 0).toNatClampNeg + q) .null = .int (jI (F q)) := by
        rw [c00, Nat.zero_add]
        show (arrV (gC G 0) N (fun j => .int (jI (F j)))).slots.getD _ _ = _
        rw [Array.getD_eq_getD_getElem?, arrV_read _ _ hq]
        rfl
      refine ⟨?_, ?_⟩
      · rw [e9]
        rfl
      · rw [e9]
        exact trivial)
    (g := F0 m pc ls (.int (jI N) :: .int (jI 0) :: .ref (gB G + j) :: .int (jI 0) :: .ref (gB G + i) :: st)) rfl (by rw [x3]; exact hL.1) (rest := st) rfl (by rw [x2]; exact hd) (by omega) (by show 2 * 0 + _ + (nativeFrameWords "java/lang/System" "arraycopy" 5 + 11) ≤ _; omega)
  have e1 : copied (vp_cell (gC G 0) (N, .inl (fun q => jI (F q)))) (vp_cell (gC G 0) (N, .inl (fun q => jI (F' q)))) (jI 0) (jI 0) (jI N) = vp_cell (gC G 0) (N, .inl (fun q => jI (F q))) := by
    refine (va_copied (fun z => .int z) (gC G 0) (gC G 0) (fun q => jI (F q)) (fun q => jI (F' q)) (by rw [cN, c00]; omega)).trans ?_
    rw [vp_cell_i]
    refine arrV_cong (fun q hq => ?_)
    rw [cN, c00]
    simp [va_cpy, hq]
  rw [e1] at X' step
  have hl9 : gB G + j < H.size := (Array.getElem?_eq_some_iff.mp hc1).1
  have hheap : ((T.setVm vm').setCell (gB G + j) (vp_cell (gC G 0) (N, .inl (fun q => jI (F q))))).heap = H.setIfInBounds (gB G + j) (vp_cell (gC G 0) (N, .inl (fun q => jI (F q)))) := by rw [← hT]; rfl
  have oq : ∀ q : Nat, q ≠ gB G + j → (H.setIfInBounds (gB G + j) (vp_cell (gC G 0) (N, .inl (fun q => jI (F q)))))[q]? = H[q]? := fun q hq => by simp [Array.getElem?_setIfInBounds, Ne.symm hq]
  obtain ⟨t, a1, b1⟩ := kk p l e R s m args below meth c _ _ cells slots Q ls X hL (hH.set hj (by simp) oq (show (H.setIfInBounds (gB G + j) _)[gB G + j]? = some _ by simp [Array.getElem?_setIfInBounds, hl9])) ⟨by simp; exact hS.1, fun q g1 g2 => by
      rw [oq q (fun e => g2 (by rw [e]; exact Nat.le_add_right _ _))]
      exact hS.2.1 q g1 g2, fun q hq => by
      rcases List.mem_append.mp hq with h | h
      · exact hS.2.2 q h
      · obtain ⟨z, -, hz⟩ := List.mem_map.mp h
        rw [← hz]
        exact Nat.le_add_right _ _⟩ hc hs hr _ hheap X'
  exact ⟨t, step t a1, b1⟩
theorem e_anew {t : Nat} {C : String} {a : Int} (hw : kWd (.classLink M.1.cls idx C)) (ho : Cond.arrayOver (.object C) ∈ kNst) (ht : ∀ cA, (ktys cA)[t]? = some (cA t, .object C)) (hd : decode M.2.1 pc = .ok (.anewarray idx, 3)) (h0 : 0 ≤ a) (h9 : a ≤ 100000) (kk : kE G M d c0 s0 (pc + 3) L (.ref (gB G + n) :: st) (kup h n (kra t a.toNat (fun _ => none))) (n + 1) Post) : kE G M d (c0 + 1) (s0 + a.toNat) pc L (.int (jI a) :: st) h n Post := by
  intro p l e R s m args below meth c H locs cells slots Q ls X hL hH hS hc hs hr
  obtain ⟨x1, x2, x3, x4, x5, x6, x7, x8, x9⟩ := id X
  have hcl := jI_cl h0 (show a ≤ 2147483647 by omega)
  refine W.anew x1 x2 x4 (x6 _ (kWl_in hw)) (va_AO.use (x7.1 _ ho)) rfl hd rfl (fun q => by rw [← jI_0] at q; have := (jI_lt ⟨by omega, by omega⟩ ⟨by decide, by decide⟩).mp q; omega) (by rw [hcl]; omega) (by omega) (by rw [hcl]; omega) fun cA kA9 comp f1 f2 f3 f4 => ?_
  have hcA : cA = gC G t := by
    obtain ⟨kA8, comp8, -, -, -, g4⟩ := (x7.2.1.2 t _ (ht _)).2
    exact Option.some.inj (f1.symm.trans g4)
  subst hcA
  rw [hcl]
  generalize hH1 : H.push ({ cls := gC G t, slots := Array.replicate a.toNat .null, vm := .none } : Cell) = H1
  have z1 : H1.size = H.size + 1 := by rw [← hH1, Array.size_push]
  have e1 : H1[H.size]? = some (arrV (gC G t) a.toNat (fun _ => .null)) := by rw [← hH1, Array.getElem?_push_size, ← arrV_new]
  have o1 : ∀ q : Nat, q < H.size → H1[q]? = H[q]? := fun q hq => by rw [← hH1, Array.getElem?_push, if_neg (Nat.ne_of_lt hq)]
  rw [hH.1] at e1 ⊢
  exact kk p l e R s m args below meth c H1 locs (cells + 1) (slots + a.toNat) Q ls X hL (hH.push z1 o1 e1) (kSz hH x7.2.2.2.2.2 hS (by omega) o1) (by omega) (by omega) hr
end KX
