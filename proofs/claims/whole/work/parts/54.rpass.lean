/-! THE REFERENCE: IMAGES -/
abbrev kps (j k : Nat) : Prop := (j = 98 ∧ k < 384) ∨ ((99 ≤ j ∧ j ≤ 101) ∧ k < 6) ∨ (j = 102 ∧ k < 5) ∨ (j = 104 ∧ 1 ≤ k ∧ k ≤ 20) ∨ ((105 ≤ j ∧ j ≤ 110) ∧ k < 20)
def koff (j k : Nat) : Nat := if j = 98 then 3 + k else if j ≤ 101 then 387 + 3 * k + (j - 99) else if j = 102 then 405 + k else if j = 104 then 408 + 2 * k else if j = 105 then 411 + 2 * k else if j ≤ 108 then 450 + 3 * k + (j - 106) else 510 + 2 * k + (j - 109)
theorem koff_v {j k : Nat} (h : kps j k) : (j = 98 ∧ k < 384 ∧ koff j k = 3 + k) ∨ ((99 ≤ j ∧ j ≤ 101) ∧ k < 6 ∧ koff j k = 387 + 3 * k + (j - 99)) ∨ (j = 102 ∧ k < 5 ∧ koff j k = 405 + k) ∨ (j = 104 ∧ (1 ≤ k ∧ k ≤ 20) ∧ koff j k = 408 + 2 * k) ∨ (j = 105 ∧ k < 20 ∧ koff j k = 411 + 2 * k) ∨ ((106 ≤ j ∧ j ≤ 108) ∧ k < 20 ∧ koff j k = 450 + 3 * k + (j - 106)) ∨ ((109 ≤ j ∧ j ≤ 110) ∧ k < 20 ∧ koff j k = 510 + 2 * k + (j - 109)) := by
  unfold kps at h
  rcases h with h | h | h | h | h
  · exact Or.inl ⟨h.1, h.2, by unfold koff; rw [if_pos h.1]⟩
  · exact Or.inr (Or.inl ⟨h.1, h.2, by unfold koff; rw [if_neg (by omega), if_pos h.1.2]⟩)
  · exact Or.inr (Or.inr (Or.inl ⟨h.1, h.2, by unfold koff; rw [if_neg (by omega), if_neg (by omega), if_pos h.1]⟩))
  · exact Or.inr (Or.inr (Or.inr (Or.inl ⟨h.1, h.2, by unfold koff; rw [if_neg (by omega), if_neg (by omega), if_neg (by omega), if_pos h.1]⟩)))
  · by_cases e : j = 105
    · exact Or.inr (Or.inr (Or.inr (Or.inr (Or.inl ⟨e, h.2, by unfold koff; rw [if_neg (by omega), if_neg (by omega), if_neg (by omega), if_neg (by omega), if_pos e]⟩))))
    · by_cases e2 : j ≤ 108
      · exact Or.inr (Or.inr (Or.inr (Or.inr (Or.inr (Or.inl ⟨by omega, h.2, by unfold koff; rw [if_neg (by omega), if_neg (by omega), if_neg (by omega), if_neg (by omega), if_neg e, if_pos e2]⟩)))))
      · exact Or.inr (Or.inr (Or.inr (Or.inr (Or.inr (Or.inr ⟨by omega, h.2, by unfold koff; rw [if_neg (by omega), if_neg (by omega), if_neg (by omega), if_neg (by omega), if_neg e, if_neg e2]⟩)))))
theorem koff_inj {j k j' k' : Nat} (h : kps j k) (h' : kps j' k') (e : koff j k = koff j' k') : j = j' ∧ k = k' := by
  have a := koff_v h
  have b := koff_v h'
  clear h h'
  rcases a with a | a | a | a | a | a | a <;> rcases b with b | b | b | b | b | b | b <;> omega
theorem koff_in {j k : Nat} (h : kps j k) : 3 ≤ koff j k ∧ koff j k < 550 ∧ j ≠ 113 := by
  have a := koff_v h
  clear h
  rcases a with a | a | a | a | a | a | a <;> omega
/-- o numbers of 550 are passed: what was told is T -/
def kFS (bs : Nat) (F : Nat → Nat → Int) (T : Nat → Int) (o : Nat) : Nat → Nat → Int := fun j k => if kps j k ∧ koff j k < o then T (koff j k) else if j = 113 ∧ bs ≤ k ∧ k < bs + o then T (k - bs) else F j k
def kqS (bs : Nat) (q : Nat → Int) (T : Nat → Int) (o : Nat) : Nat → Int := fun j => if j = 9 ∧ 0 < o then T 0 else if j = 13 ∧ 1 < o then T 1 else if j = 16 ∧ 2 < o then T 2 else if j = 31 then ((bs + o : Nat) : Int) else q j
theorem kFS_old {bs : Nat} {F : Nat → Nat → Int} {T : Nat → Int} {o j k : Nat} (h : kps j k) (ho : o ≤ koff j k) : kFS bs F T o j k = F j k := by
  have := koff_in h
  unfold kFS
  rw [if_neg (by omega), if_neg (by omega)]
theorem kFS_113 {bs : Nat} {F : Nat → Nat → Int} {T : Nat → Int} {o : Nat} : kFS bs F T o 113 (bs + o) = F 113 (bs + o) := by
  unfold kFS
  rw [if_neg (fun h => (koff_in h.1).2.2 rfl), if_neg (by omega)]
theorem kFS_k {bs : Nat} {F : Nat → Nat → Int} {T : Nat → Int} {o j' k' : Nat} : up2 (kFS bs F T o) 113 (up (kFS bs F T o 113) (bs + o) (T o)) j' k' = if j' = 113 ∧ k' = bs + o then T o else kFS bs F T o j' k' := by
  unfold up2 up
  by_cases e1 : j' = 113
  · subst e1
    by_cases e2 : k' = bs + o
    · rw [if_pos rfl, if_pos e2, if_pos ⟨rfl, e2⟩]
    · rw [if_pos rfl, if_neg e2, if_neg (by omega)]
  · rw [if_neg e1, if_neg (by omega)]
/-- a number of a row is passed and laid -/
theorem kFS_s {bs : Nat} {F : Nat → Nat → Int} {T : Nat → Int} {o j k : Nat} (h : kps j k) (ho : koff j k = o) : up2 (up2 (kFS bs F T o) 113 (up (kFS bs F T o 113) (bs + o) (T o))) j (up (up2 (kFS bs F T o) 113 (up (kFS bs F T o 113) (bs + o) (T o)) j) k (T o)) = kFS bs F T (o + 1) := by
  have hj := koff_in h
  funext j' k'
  by_cases e : j' = j ∧ k' = k
  · obtain ⟨e1, e2⟩ := e
    subst e1
    subst e2
    rw [up2_s, up_s]
    unfold kFS
    rw [if_pos ⟨h, by omega⟩, ho]
  · have e0 : up2 (up2 (kFS bs F T o) 113 (up (kFS bs F T o 113) (bs + o) (T o))) j (up (up2 (kFS bs F T o) 113 (up (kFS bs F T o 113) (bs + o) (T o)) j) k (T o)) j' k' = up2 (kFS bs F T o) 113 (up (kFS bs F T o 113) (bs + o) (T o)) j' k' := by
      by_cases e1 : j' = j
      · subst e1
        rw [up2_s, up_n (by omega)]
      · rw [up2_n e1]
    rw [e0, kFS_k]
    by_cases c : j' = 113 ∧ k' = bs + o
    · rw [if_pos c]
      unfold kFS
      rw [if_neg (fun z => (koff_in z.1).2.2 c.1), if_pos (by omega), show k' - bs = o by omega]
    · rw [if_neg c]
      unfold kFS
      by_cases c1 : kps j' k' ∧ koff j' k' < o
      · rw [if_pos c1, if_pos ⟨c1.1, by omega⟩]
      · rw [if_neg c1]
        by_cases c2 : kps j' k' ∧ koff j' k' < o + 1
        · exact absurd (koff_inj c2.1 h (by have : ¬ koff j' k' < o := fun z => c1 ⟨c2.1, z⟩; omega)) e
        · rw [if_neg c2]
          by_cases c3 : j' = 113 ∧ bs ≤ k' ∧ k' < bs + o
          · rw [if_pos c3, if_pos (by omega)]
          · rw [if_neg c3, if_neg (by omega)]
/-- a number of the object is passed -/
theorem kFS_q {bs : Nat} {F : Nat → Nat → Int} {T : Nat → Int} {o : Nat} (ho : o < 3) : up2 (kFS bs F T o) 113 (up (kFS bs F T o 113) (bs + o) (T o)) = kFS bs F T (o + 1) := by
  funext j' k'
  rw [kFS_k]
  by_cases c : j' = 113 ∧ k' = bs + o
  · rw [if_pos c]
    unfold kFS
    rw [if_neg (fun z => (koff_in z.1).2.2 c.1), if_pos (by omega), show k' - bs = o by omega]
  · rw [if_neg c]
    unfold kFS
    rw [if_neg (show ¬ (kps j' k' ∧ koff j' k' < o) from fun z => by have := koff_in z.1; omega), if_neg (show ¬ (kps j' k' ∧ koff j' k' < o + 1) from fun z => by have := koff_in z.1; omega)]
    by_cases c3 : j' = 113 ∧ bs ≤ k' ∧ k' < bs + o
    · rw [if_pos c3, if_pos (by omega)]
    · rw [if_neg c3, if_neg (by omega)]
theorem kqS_31 {bs : Nat} {q : Nat → Int} {T : Nat → Int} {o : Nat} : kqS bs q T o 31 = ((bs + o : Nat) : Int) := by
  unfold kqS
  rw [if_neg (by omega), if_neg (by omega), if_neg (by omega), if_pos rfl]
theorem kqS_32 {bs : Nat} {q : Nat → Int} {T : Nat → Int} {o : Nat} : kqS bs q T o 32 = q 32 := by
  unfold kqS
  rw [if_neg (by omega), if_neg (by omega), if_neg (by omega), if_neg (by omega)]
theorem kqS_s {bs : Nat} {q : Nat → Int} {T : Nat → Int} {o : Nat} (ho : 3 ≤ o) : up (kqS bs q T o) 31 (((bs + o : Nat) : Int) + 1) = kqS bs q T (o + 1) := by
  funext j
  unfold up kqS
  by_cases e : j = 31
  · subst e
    rw [if_pos rfl, if_neg (by omega), if_neg (by omega), if_neg (by omega), if_pos rfl]
    omega
  · rw [if_neg e, if_neg e]
    by_cases e1 : j = 9
    · rw [if_pos (by omega), if_pos (by omega)]
    · rw [if_neg (by omega), if_neg (show ¬ (j = 9 ∧ 0 < o + 1) by omega)]
      by_cases e2 : j = 13
      · rw [if_pos (by omega), if_pos (by omega)]
      · rw [if_neg (by omega), if_neg (show ¬ (j = 13 ∧ 1 < o + 1) by omega)]
        by_cases e3 : j = 16
        · rw [if_pos (by omega), if_pos (by omega)]
        · rw [if_neg (by omega), if_neg (show ¬ (j = 16 ∧ 2 < o + 1) by omega), if_neg e]
theorem kqS_q {bs : Nat} {q : Nat → Int} {T : Nat → Int} {o i : Nat} (ho : (o = 0 ∧ i = 9) ∨ (o = 1 ∧ i = 13) ∨ (o = 2 ∧ i = 16)) : up (up (kqS bs q T o) 31 (((bs + o : Nat) : Int) + 1)) i (T o) = kqS bs q T (o + 1) := by
  funext j
  unfold up kqS
  rcases ho with ⟨h1, h2⟩ | ⟨h1, h2⟩ | ⟨h1, h2⟩ <;> subst h1 <;> subst h2
  all_goals
    by_cases e : j = 31
    · subst e
      simp
      try omega
    · by_cases e1 : j = 9
      · subst e1; simp
      · by_cases e2 : j = 13
        · subst e2; simp
        · by_cases e3 : j = 16
          · subst e3; simp
          · simp [e, e1, e2, e3]
theorem kqS_o {bs : Nat} {q : Nat → Int} {T : Nat → Int} {o i : Nat} (ho : (o = 0 ∧ i = 9) ∨ (o = 1 ∧ i = 13) ∨ (o = 2 ∧ i = 16)) : kqS bs q T o i = q i := by
  unfold kqS
  rcases ho with ⟨h1, h2⟩ | ⟨h1, h2⟩ | ⟨h1, h2⟩ <;> subst h1 <;> subst h2 <;> simp
/-- told by the state, or by the row -/
def kMo9 (bs : Nat) (q : Nat → Int) (F : Nat → Nat → Int) (T : Nat → Int) : Prop := (q 32 = 1 ∧ (q 9 = T 0 ∧ q 13 = T 1 ∧ q 16 = T 2) ∧ ∀ j k : Nat, kps j k → F j k = T (koff j k)) ∨ (q 32 = 0 ∧ ∀ o : Nat, o < 550 → F 113 (bs + o) = T o)
theorem kMo9_a {bs : Nat} {q : Nat → Int} {F : Nat → Nat → Int} {T : Nat → Int} {o j k : Nat} (m : kMo9 bs q F T) (h : kps j k) (ho : koff j k = o) : (kqS bs q T o 32 = 1 ∧ T o = kFS bs F T o j k) ∨ (kqS bs q T o 32 = 0 ∧ T o = kFS bs F T o 113 (bs + o)) := by
  have := koff_in h
  rw [kqS_32]
  rcases m with ⟨m1, -, m2⟩ | ⟨m1, m2⟩
  · left
    rw [kFS_old h (by omega), m2 j k h, ho]
    exact ⟨m1, rfl⟩
  · right
    rw [kFS_113, m2 o (by omega)]
    exact ⟨m1, rfl⟩
theorem kMo9_q {bs : Nat} {q : Nat → Int} {F : Nat → Nat → Int} {T : Nat → Int} {o i : Nat} (m : kMo9 bs q F T) (ho : (o = 0 ∧ i = 9) ∨ (o = 1 ∧ i = 13) ∨ (o = 2 ∧ i = 16)) : (kqS bs q T o 32 = 1 ∧ T o = kqS bs q T o i) ∨ (kqS bs q T o 32 = 0 ∧ T o = kFS bs F T o 113 (bs + o)) := by
  rw [kqS_32, kqS_o ho]
  rcases m with ⟨m1, ⟨m3, m4, m5⟩, m2⟩ | ⟨m1, m2⟩
  · left
    refine ⟨m1, ?_⟩
    rcases ho with ⟨h1, h2⟩ | ⟨h1, h2⟩ | ⟨h1, h2⟩ <;> subst h1 <;> subst h2
    · exact m3.symm
    · exact m4.symm
    · exact m5.symm
  · right
    rw [kFS_113, m2 o (by omega)]
    exact ⟨m1, rfl⟩
set_option maxHeartbeats 4000000 in
set_option maxRecDepth 100000 in
theorem j_passW {G : kG} {d : Nat} {h : Nat → Option kC} {n : Nat} {q : Nat → Int} {F : Nat → Nat → Int} {k : Nat} (hk : q 31 = (k : Int)) (k0 : k < 1400) {x v : Int} (hw : q 32 = 1 ∧ v = x) : kCall G mX10_pass d 0 0 [.ref (gB G + 97), .int (jI x)] (kmh G h q F) n (kre (some (.int (jI v))) (kmh G h (up q 31 ((k : Int) + 1)) (up2 F 113 (up (F 113) k v))) n) := by
  show kE G mX10_pass d 0 0 0 [some (.ref (gB G + 97)), some (.int (jI x)), none] [] (kmh G h q F) n _
  obtain ⟨hw1, hw2⟩ := id hw
  refine e_aload_n rfl dX10_pass_0 ?_
  refine e_getf fdX10_305 dX10_pass_1 kmh_97 rfl ?_
  rw [hw.1]
  refine e_if_eq (tgt := 11) dX10_pass_4 (by decide) (by first | assumption | (unfold inI at *; omega)) (fun c4 => ?_) (fun c4 => ?_)
  · exact absurd c4 (by omega)
  · refine e_iload_n rfl dX10_pass_7 ?_
    refine e_goto (tgt := 20) dX10_pass_8 (by decide) ?_
    refine e_istore_n dX10_pass_20 rfl rfl ?_
    dsimp only [List.set]
    refine e_aload_n rfl dX10_pass_21 ?_
    refine e_getf fdX10_55 dX10_pass_22 kmh_97 rfl ?_
    refine e_aload_n rfl dX10_pass_25 ?_
    refine e_getf fdX10_309 dX10_pass_26 kmh_97 rfl ?_
    rw [hk]
    refine e_iload_n rfl dX10_pass_29 ?_
    refine e_mst (by first | exact ka98 | exact ka99 | exact ka100 | exact ka101 | exact ka102 | exact ka103 | exact ka104 | exact ka105 | exact ka106 | exact ka107 | exact ka108 | exact ka109 | exact ka110 | exact ka111 | exact ka112 | exact ka113) dX10_pass_30 (by omega) (by omega) ?_
    rw [Int.toNat_natCast]
    refine e_aload_n rfl dX10_pass_31 ?_
    refine e_dup rfl dX10_pass_32 ?_
    refine e_getf fdX10_309 dX10_pass_33 kmh_97 rfl ?_
    rw [hk]
    refine e_iconst dX10_pass_36 ?_
    refine e_iadd dX10_pass_37 ?_
    refine e_mput pfX10_309 dX10_pass_38 kml_31 rfl rfl rfl ?_
    refine e_iload_n rfl dX10_pass_41 ?_
    refine e_ireturn dX10_pass_42 rfl rfl ?_
    first | (subst hw2; exact ⟨rfl, rfl, rfl⟩) | (rw [hw2]; exact ⟨rfl, rfl, rfl⟩)
set_option maxHeartbeats 4000000 in
set_option maxRecDepth 100000 in
theorem j_passR {G : kG} {d : Nat} {h : Nat → Option kC} {n : Nat} {q : Nat → Int} {F : Nat → Nat → Int} {k : Nat} (hk : q 31 = (k : Int)) (k0 : k < 1400) {x v : Int} (hw : q 32 = 0 ∧ v = F 113 k) : kCall G mX10_pass d 0 0 [.ref (gB G + 97), .int (jI x)] (kmh G h q F) n (kre (some (.int (jI v))) (kmh G h (up q 31 ((k : Int) + 1)) (up2 F 113 (up (F 113) k v))) n) := by
  show kE G mX10_pass d 0 0 0 [some (.ref (gB G + 97)), some (.int (jI x)), none] [] (kmh G h q F) n _
  obtain ⟨hw1, hw2⟩ := id hw
  refine e_aload_n rfl dX10_pass_0 ?_
  refine e_getf fdX10_305 dX10_pass_1 kmh_97 rfl ?_
  rw [hw.1]
  refine e_if_eq (tgt := 11) dX10_pass_4 (by decide) (by first | assumption | (unfold inI at *; omega)) (fun c4 => ?_) (fun c4 => ?_)
  · refine e_aload_n rfl dX10_pass_11 ?_
    refine e_getf fdX10_55 dX10_pass_12 kmh_97 rfl ?_
    refine e_aload_n rfl dX10_pass_15 ?_
    refine e_getf fdX10_309 dX10_pass_16 kmh_97 rfl ?_
    rw [hk]
    refine e_mld (by first | exact ka98 | exact ka99 | exact ka100 | exact ka101 | exact ka102 | exact ka103 | exact ka104 | exact ka105 | exact ka106 | exact ka107 | exact ka108 | exact ka109 | exact ka110 | exact ka111 | exact ka112 | exact ka113) dX10_pass_19 (by omega) (by omega) ?_
    rw [Int.toNat_natCast]
    refine e_istore_n dX10_pass_20 rfl rfl ?_
    dsimp only [List.set]
    refine e_aload_n rfl dX10_pass_21 ?_
    refine e_getf fdX10_55 dX10_pass_22 kmh_97 rfl ?_
    refine e_aload_n rfl dX10_pass_25 ?_
    refine e_getf fdX10_309 dX10_pass_26 kmh_97 rfl ?_
    rw [hk]
    refine e_iload_n rfl dX10_pass_29 ?_
    refine e_mst (by first | exact ka98 | exact ka99 | exact ka100 | exact ka101 | exact ka102 | exact ka103 | exact ka104 | exact ka105 | exact ka106 | exact ka107 | exact ka108 | exact ka109 | exact ka110 | exact ka111 | exact ka112 | exact ka113) dX10_pass_30 (by omega) (by omega) ?_
    rw [Int.toNat_natCast]
    refine e_aload_n rfl dX10_pass_31 ?_
    refine e_dup rfl dX10_pass_32 ?_
    refine e_getf fdX10_309 dX10_pass_33 kmh_97 rfl ?_
    rw [hk]
    refine e_iconst dX10_pass_36 ?_
    refine e_iadd dX10_pass_37 ?_
    refine e_mput pfX10_309 dX10_pass_38 kml_31 rfl rfl rfl ?_
    refine e_iload_n rfl dX10_pass_41 ?_
    refine e_ireturn dX10_pass_42 rfl rfl ?_
    first | (subst hw2; exact ⟨rfl, rfl, rfl⟩) | (rw [hw2]; exact ⟨rfl, rfl, rfl⟩)
  · exact absurd c4 (by omega)
theorem j_pass {G : kG} {d : Nat} {h : Nat → Option kC} {n : Nat} {q : Nat → Int} {F : Nat → Nat → Int} {k : Nat} (hk : q 31 = (k : Int)) (k0 : k < 1400) {x v : Int} (hw : (q 32 = 1 ∧ v = x) ∨ (q 32 = 0 ∧ v = F 113 k)) : kCall G mX10_pass d 0 0 [.ref (gB G + 97), .int (jI x)] (kmh G h q F) n (kre (some (.int (jI v))) (kmh G h (up q 31 ((k : Int) + 1)) (up2 F 113 (up (F 113) k v))) n) := by
  rcases hw with hw | hw
  · exact j_passW hk k0 hw
  · exact j_passR hk k0 hw
set_option maxHeartbeats 4000000 in
set_option maxRecDepth 100000 in
theorem j_pa_items {G : kG} {d : Nat} {h : Nat → Option kC} {n : Nat} {q : Nat → Int} {F : Nat → Nat → Int} {bs : Nat} (b0 : bs ≤ 700) {T : Nat → Int} (mo : kMo9 bs q F T)  : ∀ (f : Nat) (i : Nat) (z : Int), z = (i : Int) → i ≤ 20 → 20 - (i : Int) ≤ f → kE G mX10_passAll (d + 1) 0 0 272 [some (.ref (gB G + 97)), some (.int (jI z))] [] (kmh G h (kqS bs q T (510 + 2 * i)) (kFS bs F T (510 + 2 * i))) n (kre none (kmh G h (kqS bs q T 550) (kFS bs F T 550)) n) := by
  intro f
  induction f with
  | zero =>
    intro i z g1 g2 g3
    refine e_iload_n rfl dX10_passAll_272 ?_
    refine e_bipush (by decide) dX10_passAll_273 ?_
    refine e_icmp_ge (tgt := 316) dX10_passAll_275 (by decide) (by first | assumption | (unfold inI at *; omega)) (by first | assumption | (unfold inI at *; omega)) (fun c275 => ?_) (fun c275 => ?_)
    · refine e_return dX10_passAll_316 rfl ?_
      rw [show i = 20 by omega]
      exact ⟨rfl, rfl, rfl⟩
    · exact absurd c275 (by omega)
  | succ f ih =>
    intro i z g1 g2 g3
    subst g1
    refine e_iload_n rfl dX10_passAll_272 ?_
    refine e_bipush (by decide) dX10_passAll_273 ?_
    refine e_icmp_ge (tgt := 316) dX10_passAll_275 (by decide) (by first | assumption | (unfold inI at *; omega)) (by first | assumption | (unfold inI at *; omega)) (fun c275 => ?_) (fun c275 => ?_)
    · refine e_return dX10_passAll_316 rfl ?_
      rw [show i = 20 by omega]
      exact ⟨rfl, rfl, rfl⟩
    · refine e_aload_n rfl dX10_passAll_278 ?_
      refine e_getf fdX10_43 dX10_passAll_279 kmh_97 rfl ?_
      refine e_iload_n rfl dX10_passAll_282 ?_
      refine e_aload_n rfl dX10_passAll_283 ?_
      refine e_aload_n rfl dX10_passAll_284 ?_
      refine e_getf fdX10_43 dX10_passAll_285 kmh_97 rfl ?_
      refine e_iload_n rfl dX10_passAll_288 ?_
      refine e_mld (by first | exact ka98 | exact ka99 | exact ka100 | exact ka101 | exact ka102 | exact ka103 | exact ka104 | exact ka105 | exact ka106 | exact ka107 | exact ka108 | exact ka109 | exact ka110 | exact ka111 | exact ka112 | exact ka113) dX10_passAll_289 (by omega) (by omega) ?_
      rw [Int.toNat_natCast]
      refine eV1 mtX10_pass miX10_pass lkX10_312 dX10_passAll_290 kmh_97 rfl rfl rfl (j_pass (k := bs + (510 + 2 * i)) kqS_31 (by omega) (kMo9_a (j := 109) (k := i) mo (by unfold kps; omega) (by unfold koff; (repeat' split) <;> omega))) ?_
      dsimp only [Option.toList, List.cons_append, List.nil_append]
      refine e_mst (by first | exact ka98 | exact ka99 | exact ka100 | exact ka101 | exact ka102 | exact ka103 | exact ka104 | exact ka105 | exact ka106 | exact ka107 | exact ka108 | exact ka109 | exact ka110 | exact ka111 | exact ka112 | exact ka113) dX10_passAll_293 (by omega) (by omega) ?_
      rw [Int.toNat_natCast, kFS_s (j := 109) (k := i) (o := 510 + 2 * i) (by unfold kps; omega) (by unfold koff; (repeat' split) <;> omega), kqS_s (o := 510 + 2 * i) (by omega)]
      refine e_aload_n rfl dX10_passAll_294 ?_
      refine e_getf fdX10_46 dX10_passAll_295 kmh_97 rfl ?_
      refine e_iload_n rfl dX10_passAll_298 ?_
      refine e_aload_n rfl dX10_passAll_299 ?_
      refine e_aload_n rfl dX10_passAll_300 ?_
      refine e_getf fdX10_46 dX10_passAll_301 kmh_97 rfl ?_
      refine e_iload_n rfl dX10_passAll_304 ?_
      refine e_mld (by first | exact ka98 | exact ka99 | exact ka100 | exact ka101 | exact ka102 | exact ka103 | exact ka104 | exact ka105 | exact ka106 | exact ka107 | exact ka108 | exact ka109 | exact ka110 | exact ka111 | exact ka112 | exact ka113) dX10_passAll_305 (by omega) (by omega) ?_
      rw [Int.toNat_natCast]
      refine eV1 mtX10_pass miX10_pass lkX10_312 dX10_passAll_306 kmh_97 rfl rfl rfl (j_pass (k := bs + (510 + 2 * i + 1)) kqS_31 (by omega) (kMo9_a (j := 110) (k := i) mo (by unfold kps; omega) (by unfold koff; (repeat' split) <;> omega))) ?_
      dsimp only [Option.toList, List.cons_append, List.nil_append]
      refine e_mst (by first | exact ka98 | exact ka99 | exact ka100 | exact ka101 | exact ka102 | exact ka103 | exact ka104 | exact ka105 | exact ka106 | exact ka107 | exact ka108 | exact ka109 | exact ka110 | exact ka111 | exact ka112 | exact ka113) dX10_passAll_309 (by omega) (by omega) ?_
      rw [Int.toNat_natCast, kFS_s (j := 110) (k := i) (o := 510 + 2 * i + 1) (by unfold kps; omega) (by unfold koff; (repeat' split) <;> omega), kqS_s (o := 510 + 2 * i + 1) (by omega)]
      refine e_iinc dX10_passAll_310 rfl rfl ?_
      dsimp only [List.set]
      refine e_goto (tgt := 272) dX10_passAll_313 (by decide) ?_
      have q9 := ih (i + 1) ((i : Int) + 1) (by omega) (by omega) (by omega)
      rw [show 510 + 2 * (i + 1) = 510 + 2 * i + 1 + 1 by omega] at q9
      exact q9
set_option maxHeartbeats 4000000 in
set_option maxRecDepth 100000 in
theorem j_pa_tests {G : kG} {d : Nat} {h : Nat → Option kC} {n : Nat} {q : Nat → Int} {F : Nat → Nat → Int} {bs : Nat} (b0 : bs ≤ 700) {T : Nat → Int} (mo : kMo9 bs q F T)  : ∀ (f : Nat) (i : Nat) (z : Int), z = (i : Int) → i ≤ 20 → 20 - (i : Int) ≤ f → kE G mX10_passAll (d + 1) 0 0 210 [some (.ref (gB G + 97)), some (.int (jI z))] [] (kmh G h (kqS bs q T (450 + 3 * i)) (kFS bs F T (450 + 3 * i))) n (kre none (kmh G h (kqS bs q T 550) (kFS bs F T 550)) n) := by
  intro f
  induction f with
  | zero =>
    intro i z g1 g2 g3
    refine e_iload_n rfl dX10_passAll_210 ?_
    refine e_bipush (by decide) dX10_passAll_211 ?_
    refine e_icmp_ge (tgt := 270) dX10_passAll_213 (by decide) (by first | assumption | (unfold inI at *; omega)) (by first | assumption | (unfold inI at *; omega)) (fun c213 => ?_) (fun c213 => ?_)
    · have e9 : i = 20 := by omega
      subst e9
      refine e_iconst dX10_passAll_270 ?_
      refine e_istore_n dX10_passAll_271 rfl rfl ?_
      dsimp only [List.set]
      exact j_pa_items b0 mo 500 0 0 (by omega) (by omega) (by omega)
    · exact absurd c213 (by omega)
  | succ f ih =>
    intro i z g1 g2 g3
    subst g1
    refine e_iload_n rfl dX10_passAll_210 ?_
    refine e_bipush (by decide) dX10_passAll_211 ?_
    refine e_icmp_ge (tgt := 270) dX10_passAll_213 (by decide) (by first | assumption | (unfold inI at *; omega)) (by first | assumption | (unfold inI at *; omega)) (fun c213 => ?_) (fun c213 => ?_)
    · have e9 : i = 20 := by omega
      subst e9
      refine e_iconst dX10_passAll_270 ?_
      refine e_istore_n dX10_passAll_271 rfl rfl ?_
      dsimp only [List.set]
      exact j_pa_items b0 mo 500 0 0 (by omega) (by omega) (by omega)
    · refine e_aload_n rfl dX10_passAll_216 ?_
      refine e_getf fdX10_34 dX10_passAll_217 kmh_97 rfl ?_
      refine e_iload_n rfl dX10_passAll_220 ?_
      refine e_aload_n rfl dX10_passAll_221 ?_
      refine e_aload_n rfl dX10_passAll_222 ?_
      refine e_getf fdX10_34 dX10_passAll_223 kmh_97 rfl ?_
      refine e_iload_n rfl dX10_passAll_226 ?_
      refine e_mld (by first | exact ka98 | exact ka99 | exact ka100 | exact ka101 | exact ka102 | exact ka103 | exact ka104 | exact ka105 | exact ka106 | exact ka107 | exact ka108 | exact ka109 | exact ka110 | exact ka111 | exact ka112 | exact ka113) dX10_passAll_227 (by omega) (by omega) ?_
      rw [Int.toNat_natCast]
      refine eV1 mtX10_pass miX10_pass lkX10_312 dX10_passAll_228 kmh_97 rfl rfl rfl (j_pass (k := bs + (450 + 3 * i)) kqS_31 (by omega) (kMo9_a (j := 106) (k := i) mo (by unfold kps; omega) (by unfold koff; (repeat' split) <;> omega))) ?_
      dsimp only [Option.toList, List.cons_append, List.nil_append]
      refine e_mst (by first | exact ka98 | exact ka99 | exact ka100 | exact ka101 | exact ka102 | exact ka103 | exact ka104 | exact ka105 | exact ka106 | exact ka107 | exact ka108 | exact ka109 | exact ka110 | exact ka111 | exact ka112 | exact ka113) dX10_passAll_231 (by omega) (by omega) ?_
      rw [Int.toNat_natCast, kFS_s (j := 106) (k := i) (o := 450 + 3 * i) (by unfold kps; omega) (by unfold koff; (repeat' split) <;> omega), kqS_s (o := 450 + 3 * i) (by omega)]
      refine e_aload_n rfl dX10_passAll_232 ?_
      refine e_getf fdX10_37 dX10_passAll_233 kmh_97 rfl ?_
      refine e_iload_n rfl dX10_passAll_236 ?_
      refine e_aload_n rfl dX10_passAll_237 ?_
      refine e_aload_n rfl dX10_passAll_238 ?_
      refine e_getf fdX10_37 dX10_passAll_239 kmh_97 rfl ?_
      refine e_iload_n rfl dX10_passAll_242 ?_
      refine e_mld (by first | exact ka98 | exact ka99 | exact ka100 | exact ka101 | exact ka102 | exact ka103 | exact ka104 | exact ka105 | exact ka106 | exact ka107 | exact ka108 | exact ka109 | exact ka110 | exact ka111 | exact ka112 | exact ka113) dX10_passAll_243 (by omega) (by omega) ?_
      rw [Int.toNat_natCast]
      refine eV1 mtX10_pass miX10_pass lkX10_312 dX10_passAll_244 kmh_97 rfl rfl rfl (j_pass (k := bs + (450 + 3 * i + 1)) kqS_31 (by omega) (kMo9_a (j := 107) (k := i) mo (by unfold kps; omega) (by unfold koff; (repeat' split) <;> omega))) ?_
      dsimp only [Option.toList, List.cons_append, List.nil_append]
      refine e_mst (by first | exact ka98 | exact ka99 | exact ka100 | exact ka101 | exact ka102 | exact ka103 | exact ka104 | exact ka105 | exact ka106 | exact ka107 | exact ka108 | exact ka109 | exact ka110 | exact ka111 | exact ka112 | exact ka113) dX10_passAll_247 (by omega) (by omega) ?_
      rw [Int.toNat_natCast, kFS_s (j := 107) (k := i) (o := 450 + 3 * i + 1) (by unfold kps; omega) (by unfold koff; (repeat' split) <;> omega), kqS_s (o := 450 + 3 * i + 1) (by omega)]
      refine e_aload_n rfl dX10_passAll_248 ?_
      refine e_getf fdX10_40 dX10_passAll_249 kmh_97 rfl ?_
      refine e_iload_n rfl dX10_passAll_252 ?_
      refine e_aload_n rfl dX10_passAll_253 ?_
      refine e_aload_n rfl dX10_passAll_254 ?_
      refine e_getf fdX10_40 dX10_passAll_255 kmh_97 rfl ?_
      refine e_iload_n rfl dX10_passAll_258 ?_
      refine e_mld (by first | exact ka98 | exact ka99 | exact ka100 | exact ka101 | exact ka102 | exact ka103 | exact ka104 | exact ka105 | exact ka106 | exact ka107 | exact ka108 | exact ka109 | exact ka110 | exact ka111 | exact ka112 | exact ka113) dX10_passAll_259 (by omega) (by omega) ?_
      rw [Int.toNat_natCast]
      refine eV1 mtX10_pass miX10_pass lkX10_312 dX10_passAll_260 kmh_97 rfl rfl rfl (j_pass (k := bs + (450 + 3 * i + 2)) kqS_31 (by omega) (kMo9_a (j := 108) (k := i) mo (by unfold kps; omega) (by unfold koff; (repeat' split) <;> omega))) ?_
      dsimp only [Option.toList, List.cons_append, List.nil_append]
      refine e_mst (by first | exact ka98 | exact ka99 | exact ka100 | exact ka101 | exact ka102 | exact ka103 | exact ka104 | exact ka105 | exact ka106 | exact ka107 | exact ka108 | exact ka109 | exact ka110 | exact ka111 | exact ka112 | exact ka113) dX10_passAll_263 (by omega) (by omega) ?_
      rw [Int.toNat_natCast, kFS_s (j := 108) (k := i) (o := 450 + 3 * i + 2) (by unfold kps; omega) (by unfold koff; (repeat' split) <;> omega), kqS_s (o := 450 + 3 * i + 2) (by omega)]
      refine e_iinc dX10_passAll_264 rfl rfl ?_
      dsimp only [List.set]
      refine e_goto (tgt := 210) dX10_passAll_267 (by decide) ?_
      have q9 := ih (i + 1) ((i : Int) + 1) (by omega) (by omega) (by omega)
      rw [show 450 + 3 * (i + 1) = 450 + 3 * i + 2 + 1 by omega] at q9
      exact q9
set_option maxHeartbeats 4000000 in
set_option maxRecDepth 100000 in
theorem j_pa_cases {G : kG} {d : Nat} {h : Nat → Option kC} {n : Nat} {q : Nat → Int} {F : Nat → Nat → Int} {bs : Nat} (b0 : bs ≤ 700) {T : Nat → Int} (mo : kMo9 bs q F T)  : ∀ (f : Nat) (i : Nat) (z : Int), z = (i : Int) → i ≤ 20 → 20 - (i : Int) ≤ f → kE G mX10_passAll (d + 1) 0 0 160 [some (.ref (gB G + 97)), some (.int (jI z))] [] (kmh G h (kqS bs q T (410 + 2 * i)) (kFS bs F T (410 + 2 * i))) n (kre none (kmh G h (kqS bs q T 550) (kFS bs F T 550)) n) := by
  intro f
  induction f with
  | zero =>
    intro i z g1 g2 g3
    refine e_iload_n rfl dX10_passAll_160 ?_
    refine e_bipush (by decide) dX10_passAll_161 ?_
    refine e_icmp_ge (tgt := 208) dX10_passAll_163 (by decide) (by first | assumption | (unfold inI at *; omega)) (by first | assumption | (unfold inI at *; omega)) (fun c163 => ?_) (fun c163 => ?_)
    · have e9 : i = 20 := by omega
      subst e9
      refine e_iconst dX10_passAll_208 ?_
      refine e_istore_n dX10_passAll_209 rfl rfl ?_
      dsimp only [List.set]
      exact j_pa_tests b0 mo 500 0 0 (by omega) (by omega) (by omega)
    · exact absurd c163 (by omega)
  | succ f ih =>
    intro i z g1 g2 g3
    subst g1
    refine e_iload_n rfl dX10_passAll_160 ?_
    refine e_bipush (by decide) dX10_passAll_161 ?_
    refine e_icmp_ge (tgt := 208) dX10_passAll_163 (by decide) (by first | assumption | (unfold inI at *; omega)) (by first | assumption | (unfold inI at *; omega)) (fun c163 => ?_) (fun c163 => ?_)
    · have e9 : i = 20 := by omega
      subst e9
      refine e_iconst dX10_passAll_208 ?_
      refine e_istore_n dX10_passAll_209 rfl rfl ?_
      dsimp only [List.set]
      exact j_pa_tests b0 mo 500 0 0 (by omega) (by omega) (by omega)
    · refine e_aload_n rfl dX10_passAll_166 ?_
      refine e_getf fdX10_28 dX10_passAll_167 kmh_97 rfl ?_
      refine e_iload_n rfl dX10_passAll_170 ?_
      refine e_iconst dX10_passAll_171 ?_
      refine e_iadd dX10_passAll_172 ?_
      refine e_aload_n rfl dX10_passAll_173 ?_
      refine e_aload_n rfl dX10_passAll_174 ?_
      refine e_getf fdX10_28 dX10_passAll_175 kmh_97 rfl ?_
      refine e_iload_n rfl dX10_passAll_178 ?_
      refine e_iconst dX10_passAll_179 ?_
      refine e_iadd dX10_passAll_180 ?_
      refine e_mld (by first | exact ka98 | exact ka99 | exact ka100 | exact ka101 | exact ka102 | exact ka103 | exact ka104 | exact ka105 | exact ka106 | exact ka107 | exact ka108 | exact ka109 | exact ka110 | exact ka111 | exact ka112 | exact ka113) dX10_passAll_181 (by omega) (by omega) ?_
      rw [show ((i : Int) + 1).toNat = i + 1 by omega]
      refine eV1 mtX10_pass miX10_pass lkX10_312 dX10_passAll_182 kmh_97 rfl rfl rfl (j_pass (k := bs + (410 + 2 * i)) kqS_31 (by omega) (kMo9_a (j := 104) (k := (i + 1)) mo (by unfold kps; omega) (by unfold koff; (repeat' split) <;> omega))) ?_
      dsimp only [Option.toList, List.cons_append, List.nil_append]
      refine e_mst (by first | exact ka98 | exact ka99 | exact ka100 | exact ka101 | exact ka102 | exact ka103 | exact ka104 | exact ka105 | exact ka106 | exact ka107 | exact ka108 | exact ka109 | exact ka110 | exact ka111 | exact ka112 | exact ka113) dX10_passAll_185 (by omega) (by omega) ?_
      rw [show ((i : Int) + 1).toNat = i + 1 by omega, kFS_s (j := 104) (k := (i + 1)) (o := 410 + 2 * i) (by unfold kps; omega) (by unfold koff; (repeat' split) <;> omega), kqS_s (o := 410 + 2 * i) (by omega)]
      refine e_aload_n rfl dX10_passAll_186 ?_
      refine e_getf fdX10_31 dX10_passAll_187 kmh_97 rfl ?_
      refine e_iload_n rfl dX10_passAll_190 ?_
      refine e_aload_n rfl dX10_passAll_191 ?_
      refine e_aload_n rfl dX10_passAll_192 ?_
      refine e_getf fdX10_31 dX10_passAll_193 kmh_97 rfl ?_
      refine e_iload_n rfl dX10_passAll_196 ?_
      refine e_mld (by first | exact ka98 | exact ka99 | exact ka100 | exact ka101 | exact ka102 | exact ka103 | exact ka104 | exact ka105 | exact ka106 | exact ka107 | exact ka108 | exact ka109 | exact ka110 | exact ka111 | exact ka112 | exact ka113) dX10_passAll_197 (by omega) (by omega) ?_
      rw [Int.toNat_natCast]
      refine eV1 mtX10_pass miX10_pass lkX10_312 dX10_passAll_198 kmh_97 rfl rfl rfl (j_pass (k := bs + (410 + 2 * i + 1)) kqS_31 (by omega) (kMo9_a (j := 105) (k := i) mo (by unfold kps; omega) (by unfold koff; (repeat' split) <;> omega))) ?_
      dsimp only [Option.toList, List.cons_append, List.nil_append]
      refine e_mst (by first | exact ka98 | exact ka99 | exact ka100 | exact ka101 | exact ka102 | exact ka103 | exact ka104 | exact ka105 | exact ka106 | exact ka107 | exact ka108 | exact ka109 | exact ka110 | exact ka111 | exact ka112 | exact ka113) dX10_passAll_201 (by omega) (by omega) ?_
      rw [Int.toNat_natCast, kFS_s (j := 105) (k := i) (o := 410 + 2 * i + 1) (by unfold kps; omega) (by unfold koff; (repeat' split) <;> omega), kqS_s (o := 410 + 2 * i + 1) (by omega)]
      refine e_iinc dX10_passAll_202 rfl rfl ?_
      dsimp only [List.set]
      refine e_goto (tgt := 160) dX10_passAll_205 (by decide) ?_
      have q9 := ih (i + 1) ((i : Int) + 1) (by omega) (by omega) (by omega)
      rw [show 410 + 2 * (i + 1) = 410 + 2 * i + 1 + 1 by omega] at q9
      exact q9
set_option maxHeartbeats 4000000 in
set_option maxRecDepth 100000 in
theorem j_pa_ways {G : kG} {d : Nat} {h : Nat → Option kC} {n : Nat} {q : Nat → Int} {F : Nat → Nat → Int} {bs : Nat} (b0 : bs ≤ 700) {T : Nat → Int} (mo : kMo9 bs q F T)  : ∀ (f : Nat) (i : Nat) (z : Int), z = (i : Int) → i ≤ 5 → 5 - (i : Int) ≤ f → kE G mX10_passAll (d + 1) 0 0 131 [some (.ref (gB G + 97)), some (.int (jI z))] [] (kmh G h (kqS bs q T (405 + 1 * i)) (kFS bs F T (405 + 1 * i))) n (kre none (kmh G h (kqS bs q T 550) (kFS bs F T 550)) n) := by
  intro f
  induction f with
  | zero =>
    intro i z g1 g2 g3
    refine e_iload_n rfl dX10_passAll_131 ?_
    refine e_iconst dX10_passAll_132 ?_
    refine e_icmp_ge (tgt := 158) dX10_passAll_133 (by decide) (by first | assumption | (unfold inI at *; omega)) (by first | assumption | (unfold inI at *; omega)) (fun c133 => ?_) (fun c133 => ?_)
    · have e9 : i = 5 := by omega
      subst e9
      refine e_iconst dX10_passAll_158 ?_
      refine e_istore_n dX10_passAll_159 rfl rfl ?_
      dsimp only [List.set]
      exact j_pa_cases b0 mo 500 0 0 (by omega) (by omega) (by omega)
    · exact absurd c133 (by omega)
  | succ f ih =>
    intro i z g1 g2 g3
    subst g1
    refine e_iload_n rfl dX10_passAll_131 ?_
    refine e_iconst dX10_passAll_132 ?_
    refine e_icmp_ge (tgt := 158) dX10_passAll_133 (by decide) (by first | assumption | (unfold inI at *; omega)) (by first | assumption | (unfold inI at *; omega)) (fun c133 => ?_) (fun c133 => ?_)
    · have e9 : i = 5 := by omega
      subst e9
      refine e_iconst dX10_passAll_158 ?_
      refine e_istore_n dX10_passAll_159 rfl rfl ?_
      dsimp only [List.set]
      exact j_pa_cases b0 mo 500 0 0 (by omega) (by omega) (by omega)
    · refine e_aload_n rfl dX10_passAll_136 ?_
      refine e_getf fdX10_22 dX10_passAll_137 kmh_97 rfl ?_
      refine e_iload_n rfl dX10_passAll_140 ?_
      refine e_aload_n rfl dX10_passAll_141 ?_
      refine e_aload_n rfl dX10_passAll_142 ?_
      refine e_getf fdX10_22 dX10_passAll_143 kmh_97 rfl ?_
      refine e_iload_n rfl dX10_passAll_146 ?_
      refine e_mld (by first | exact ka98 | exact ka99 | exact ka100 | exact ka101 | exact ka102 | exact ka103 | exact ka104 | exact ka105 | exact ka106 | exact ka107 | exact ka108 | exact ka109 | exact ka110 | exact ka111 | exact ka112 | exact ka113) dX10_passAll_147 (by omega) (by omega) ?_
      rw [Int.toNat_natCast]
      refine eV1 mtX10_pass miX10_pass lkX10_312 dX10_passAll_148 kmh_97 rfl rfl rfl (j_pass (k := bs + (405 + 1 * i)) kqS_31 (by omega) (kMo9_a (j := 102) (k := i) mo (by unfold kps; omega) (by unfold koff; (repeat' split) <;> omega))) ?_
      dsimp only [Option.toList, List.cons_append, List.nil_append]
      refine e_mst (by first | exact ka98 | exact ka99 | exact ka100 | exact ka101 | exact ka102 | exact ka103 | exact ka104 | exact ka105 | exact ka106 | exact ka107 | exact ka108 | exact ka109 | exact ka110 | exact ka111 | exact ka112 | exact ka113) dX10_passAll_151 (by omega) (by omega) ?_
      rw [Int.toNat_natCast, kFS_s (j := 102) (k := i) (o := 405 + 1 * i) (by unfold kps; omega) (by unfold koff; (repeat' split) <;> omega), kqS_s (o := 405 + 1 * i) (by omega)]
      refine e_iinc dX10_passAll_152 rfl rfl ?_
      dsimp only [List.set]
      refine e_goto (tgt := 131) dX10_passAll_155 (by decide) ?_
      have q9 := ih (i + 1) ((i : Int) + 1) (by omega) (by omega) (by omega)
      rw [show 405 + 1 * (i + 1) = 405 + 1 * i + 1 by omega] at q9
      exact q9
set_option maxHeartbeats 4000000 in
set_option maxRecDepth 100000 in
theorem j_pa_books {G : kG} {d : Nat} {h : Nat → Option kC} {n : Nat} {q : Nat → Int} {F : Nat → Nat → Int} {bs : Nat} (b0 : bs ≤ 700) {T : Nat → Int} (mo : kMo9 bs q F T)  : ∀ (f : Nat) (i : Nat) (z : Int), z = (i : Int) → i ≤ 6 → 6 - (i : Int) ≤ f → kE G mX10_passAll (d + 1) 0 0 69 [some (.ref (gB G + 97)), some (.int (jI z))] [] (kmh G h (kqS bs q T (387 + 3 * i)) (kFS bs F T (387 + 3 * i))) n (kre none (kmh G h (kqS bs q T 550) (kFS bs F T 550)) n) := by
  intro f
  induction f with
  | zero =>
    intro i z g1 g2 g3
    refine e_iload_n rfl dX10_passAll_69 ?_
    refine e_bipush (by decide) dX10_passAll_70 ?_
    refine e_icmp_ge (tgt := 129) dX10_passAll_72 (by decide) (by first | assumption | (unfold inI at *; omega)) (by first | assumption | (unfold inI at *; omega)) (fun c72 => ?_) (fun c72 => ?_)
    · have e9 : i = 6 := by omega
      subst e9
      refine e_iconst dX10_passAll_129 ?_
      refine e_istore_n dX10_passAll_130 rfl rfl ?_
      dsimp only [List.set]
      exact j_pa_ways b0 mo 500 0 0 (by omega) (by omega) (by omega)
    · exact absurd c72 (by omega)
  | succ f ih =>
    intro i z g1 g2 g3
    subst g1
    refine e_iload_n rfl dX10_passAll_69 ?_
    refine e_bipush (by decide) dX10_passAll_70 ?_
    refine e_icmp_ge (tgt := 129) dX10_passAll_72 (by decide) (by first | assumption | (unfold inI at *; omega)) (by first | assumption | (unfold inI at *; omega)) (fun c72 => ?_) (fun c72 => ?_)
    · have e9 : i = 6 := by omega
      subst e9
      refine e_iconst dX10_passAll_129 ?_
      refine e_istore_n dX10_passAll_130 rfl rfl ?_
      dsimp only [List.set]
      exact j_pa_ways b0 mo 500 0 0 (by omega) (by omega) (by omega)
    · refine e_aload_n rfl dX10_passAll_75 ?_
      refine e_getf fdX10_13 dX10_passAll_76 kmh_97 rfl ?_
      refine e_iload_n rfl dX10_passAll_79 ?_
      refine e_aload_n rfl dX10_passAll_80 ?_
      refine e_aload_n rfl dX10_passAll_81 ?_
      refine e_getf fdX10_13 dX10_passAll_82 kmh_97 rfl ?_
      refine e_iload_n rfl dX10_passAll_85 ?_
      refine e_mld (by first | exact ka98 | exact ka99 | exact ka100 | exact ka101 | exact ka102 | exact ka103 | exact ka104 | exact ka105 | exact ka106 | exact ka107 | exact ka108 | exact ka109 | exact ka110 | exact ka111 | exact ka112 | exact ka113) dX10_passAll_86 (by omega) (by omega) ?_
      rw [Int.toNat_natCast]
      refine eV1 mtX10_pass miX10_pass lkX10_312 dX10_passAll_87 kmh_97 rfl rfl rfl (j_pass (k := bs + (387 + 3 * i)) kqS_31 (by omega) (kMo9_a (j := 99) (k := i) mo (by unfold kps; omega) (by unfold koff; (repeat' split) <;> omega))) ?_
      dsimp only [Option.toList, List.cons_append, List.nil_append]
      refine e_mst (by first | exact ka98 | exact ka99 | exact ka100 | exact ka101 | exact ka102 | exact ka103 | exact ka104 | exact ka105 | exact ka106 | exact ka107 | exact ka108 | exact ka109 | exact ka110 | exact ka111 | exact ka112 | exact ka113) dX10_passAll_90 (by omega) (by omega) ?_
      rw [Int.toNat_natCast, kFS_s (j := 99) (k := i) (o := 387 + 3 * i) (by unfold kps; omega) (by unfold koff; (repeat' split) <;> omega), kqS_s (o := 387 + 3 * i) (by omega)]
      refine e_aload_n rfl dX10_passAll_91 ?_
      refine e_getf fdX10_16 dX10_passAll_92 kmh_97 rfl ?_
      refine e_iload_n rfl dX10_passAll_95 ?_
      refine e_aload_n rfl dX10_passAll_96 ?_
      refine e_aload_n rfl dX10_passAll_97 ?_
      refine e_getf fdX10_16 dX10_passAll_98 kmh_97 rfl ?_
      refine e_iload_n rfl dX10_passAll_101 ?_
      refine e_mld (by first | exact ka98 | exact ka99 | exact ka100 | exact ka101 | exact ka102 | exact ka103 | exact ka104 | exact ka105 | exact ka106 | exact ka107 | exact ka108 | exact ka109 | exact ka110 | exact ka111 | exact ka112 | exact ka113) dX10_passAll_102 (by omega) (by omega) ?_
      rw [Int.toNat_natCast]
      refine eV1 mtX10_pass miX10_pass lkX10_312 dX10_passAll_103 kmh_97 rfl rfl rfl (j_pass (k := bs + (387 + 3 * i + 1)) kqS_31 (by omega) (kMo9_a (j := 100) (k := i) mo (by unfold kps; omega) (by unfold koff; (repeat' split) <;> omega))) ?_
      dsimp only [Option.toList, List.cons_append, List.nil_append]
      refine e_mst (by first | exact ka98 | exact ka99 | exact ka100 | exact ka101 | exact ka102 | exact ka103 | exact ka104 | exact ka105 | exact ka106 | exact ka107 | exact ka108 | exact ka109 | exact ka110 | exact ka111 | exact ka112 | exact ka113) dX10_passAll_106 (by omega) (by omega) ?_
      rw [Int.toNat_natCast, kFS_s (j := 100) (k := i) (o := 387 + 3 * i + 1) (by unfold kps; omega) (by unfold koff; (repeat' split) <;> omega), kqS_s (o := 387 + 3 * i + 1) (by omega)]
      refine e_aload_n rfl dX10_passAll_107 ?_
      refine e_getf fdX10_19 dX10_passAll_108 kmh_97 rfl ?_
      refine e_iload_n rfl dX10_passAll_111 ?_
      refine e_aload_n rfl dX10_passAll_112 ?_
      refine e_aload_n rfl dX10_passAll_113 ?_
      refine e_getf fdX10_19 dX10_passAll_114 kmh_97 rfl ?_
      refine e_iload_n rfl dX10_passAll_117 ?_
      refine e_mld (by first | exact ka98 | exact ka99 | exact ka100 | exact ka101 | exact ka102 | exact ka103 | exact ka104 | exact ka105 | exact ka106 | exact ka107 | exact ka108 | exact ka109 | exact ka110 | exact ka111 | exact ka112 | exact ka113) dX10_passAll_118 (by omega) (by omega) ?_
      rw [Int.toNat_natCast]
      refine eV1 mtX10_pass miX10_pass lkX10_312 dX10_passAll_119 kmh_97 rfl rfl rfl (j_pass (k := bs + (387 + 3 * i + 2)) kqS_31 (by omega) (kMo9_a (j := 101) (k := i) mo (by unfold kps; omega) (by unfold koff; (repeat' split) <;> omega))) ?_
      dsimp only [Option.toList, List.cons_append, List.nil_append]
      refine e_mst (by first | exact ka98 | exact ka99 | exact ka100 | exact ka101 | exact ka102 | exact ka103 | exact ka104 | exact ka105 | exact ka106 | exact ka107 | exact ka108 | exact ka109 | exact ka110 | exact ka111 | exact ka112 | exact ka113) dX10_passAll_122 (by omega) (by omega) ?_
      rw [Int.toNat_natCast, kFS_s (j := 101) (k := i) (o := 387 + 3 * i + 2) (by unfold kps; omega) (by unfold koff; (repeat' split) <;> omega), kqS_s (o := 387 + 3 * i + 2) (by omega)]
      refine e_iinc dX10_passAll_123 rfl rfl ?_
      dsimp only [List.set]
      refine e_goto (tgt := 69) dX10_passAll_126 (by decide) ?_
      have q9 := ih (i + 1) ((i : Int) + 1) (by omega) (by omega) (by omega)
      rw [show 387 + 3 * (i + 1) = 387 + 3 * i + 2 + 1 by omega] at q9
      exact q9
set_option maxHeartbeats 4000000 in
set_option maxRecDepth 100000 in
theorem j_pa_men {G : kG} {d : Nat} {h : Nat → Option kC} {n : Nat} {q : Nat → Int} {F : Nat → Nat → Int} {bs : Nat} (b0 : bs ≤ 700) {T : Nat → Int} (mo : kMo9 bs q F T)  : ∀ (f : Nat) (i : Nat) (z : Int), z = (i : Int) → i ≤ 384 → 384 - (i : Int) ≤ f → kE G mX10_passAll (d + 1) 0 0 38 [some (.ref (gB G + 97)), some (.int (jI z))] [] (kmh G h (kqS bs q T (3 + 1 * i)) (kFS bs F T (3 + 1 * i))) n (kre none (kmh G h (kqS bs q T 550) (kFS bs F T 550)) n) := by
  intro f
  induction f with
  | zero =>
    intro i z g1 g2 g3
    refine e_iload_n rfl dX10_passAll_38 ?_
    refine e_sipush (by decide) dX10_passAll_39 ?_
    refine e_icmp_ge (tgt := 67) dX10_passAll_42 (by decide) (by first | assumption | (unfold inI at *; omega)) (by first | assumption | (unfold inI at *; omega)) (fun c42 => ?_) (fun c42 => ?_)
    · have e9 : i = 384 := by omega
      subst e9
      refine e_iconst dX10_passAll_67 ?_
      refine e_istore_n dX10_passAll_68 rfl rfl ?_
      dsimp only [List.set]
      exact j_pa_books b0 mo 500 0 0 (by omega) (by omega) (by omega)
    · exact absurd c42 (by omega)
  | succ f ih =>
    intro i z g1 g2 g3
    subst g1
    refine e_iload_n rfl dX10_passAll_38 ?_
    refine e_sipush (by decide) dX10_passAll_39 ?_
    refine e_icmp_ge (tgt := 67) dX10_passAll_42 (by decide) (by first | assumption | (unfold inI at *; omega)) (by first | assumption | (unfold inI at *; omega)) (fun c42 => ?_) (fun c42 => ?_)
    · have e9 : i = 384 := by omega
      subst e9
      refine e_iconst dX10_passAll_67 ?_
      refine e_istore_n dX10_passAll_68 rfl rfl ?_
      dsimp only [List.set]
      exact j_pa_books b0 mo 500 0 0 (by omega) (by omega) (by omega)
    · refine e_aload_n rfl dX10_passAll_45 ?_
      refine e_getf fdX10_7 dX10_passAll_46 kmh_97 rfl ?_
      refine e_iload_n rfl dX10_passAll_49 ?_
      refine e_aload_n rfl dX10_passAll_50 ?_
      refine e_aload_n rfl dX10_passAll_51 ?_
      refine e_getf fdX10_7 dX10_passAll_52 kmh_97 rfl ?_
      refine e_iload_n rfl dX10_passAll_55 ?_
      refine e_mld (by first | exact ka98 | exact ka99 | exact ka100 | exact ka101 | exact ka102 | exact ka103 | exact ka104 | exact ka105 | exact ka106 | exact ka107 | exact ka108 | exact ka109 | exact ka110 | exact ka111 | exact ka112 | exact ka113) dX10_passAll_56 (by omega) (by omega) ?_
      rw [Int.toNat_natCast]
      refine eV1 mtX10_pass miX10_pass lkX10_312 dX10_passAll_57 kmh_97 rfl rfl rfl (j_pass (k := bs + (3 + 1 * i)) kqS_31 (by omega) (kMo9_a (j := 98) (k := i) mo (by unfold kps; omega) (by unfold koff; (repeat' split) <;> omega))) ?_
      dsimp only [Option.toList, List.cons_append, List.nil_append]
      refine e_mst (by first | exact ka98 | exact ka99 | exact ka100 | exact ka101 | exact ka102 | exact ka103 | exact ka104 | exact ka105 | exact ka106 | exact ka107 | exact ka108 | exact ka109 | exact ka110 | exact ka111 | exact ka112 | exact ka113) dX10_passAll_60 (by omega) (by omega) ?_
      rw [Int.toNat_natCast, kFS_s (j := 98) (k := i) (o := 3 + 1 * i) (by unfold kps; omega) (by unfold koff; (repeat' split) <;> omega), kqS_s (o := 3 + 1 * i) (by omega)]
      refine e_iinc dX10_passAll_61 rfl rfl ?_
      dsimp only [List.set]
      refine e_goto (tgt := 38) dX10_passAll_64 (by decide) ?_
      have q9 := ih (i + 1) ((i : Int) + 1) (by omega) (by omega) (by omega)
      rw [show 3 + 1 * (i + 1) = 3 + 1 * i + 1 by omega] at q9
      exact q9
set_option maxHeartbeats 4000000 in
set_option maxRecDepth 100000 in
theorem j_passAll {G : kG} {d : Nat} {h : Nat → Option kC} {n : Nat} {q : Nat → Int} {F : Nat → Nat → Int} {bs : Nat} (b0 : bs ≤ 700) {T : Nat → Int} (mo : kMo9 bs q F T) (hq : q 31 = (bs : Int)) : kCall G mX10_passAll (d + 1) 0 0 [.ref (gB G + 97)] (kmh G h q F) n (kre none (kmh G h (kqS bs q T 550) (kFS bs F T 550)) n) := by
  show kE G mX10_passAll (d + 1) 0 0 0 [some (.ref (gB G + 97)), none] [] (kmh G h q F) n _
  have e0 : kqS bs q T 0 = q := by
    funext j
    unfold kqS
    rw [if_neg (by omega), if_neg (by omega), if_neg (by omega)]
    split
    · rename_i e
      rw [e, hq]
      rfl
    · rfl
  have e1 : kFS bs F T 0 = F := by
    funext j k
    unfold kFS
    rw [if_neg (by omega), if_neg (by omega)]
  suffices hs : kE G mX10_passAll (d + 1) 0 0 0 [some (.ref (gB G + 97)), none] [] (kmh G h (kqS bs q T 0) (kFS bs F T 0)) n (kre none (kmh G h (kqS bs q T 550) (kFS bs F T 550)) n) by
    rw [e0, e1] at hs
    exact hs
  refine e_aload_n rfl dX10_passAll_0 ?_
  refine e_aload_n rfl dX10_passAll_1 ?_
  refine e_aload_n rfl dX10_passAll_2 ?_
  refine e_getf fdX10_131 dX10_passAll_3 kmh_97 rfl ?_
  refine eV1 mtX10_pass miX10_pass lkX10_312 dX10_passAll_6 kmh_97 rfl rfl rfl (j_pass (k := bs + 0) kqS_31 (by omega) (kMo9_q mo (by omega))) ?_
  dsimp only [Option.toList, List.cons_append, List.nil_append]
  refine e_mput pfX10_131 dX10_passAll_9 kml_9 rfl rfl rfl ?_
  rw [kqS_q (by omega), kFS_q (by omega)]
  refine e_aload_n rfl dX10_passAll_12 ?_
  refine e_aload_n rfl dX10_passAll_13 ?_
  refine e_aload_n rfl dX10_passAll_14 ?_
  refine e_getf fdX10_134 dX10_passAll_15 kmh_97 rfl ?_
  refine eV1 mtX10_pass miX10_pass lkX10_312 dX10_passAll_18 kmh_97 rfl rfl rfl (j_pass (k := bs + 1) kqS_31 (by omega) (kMo9_q mo (by omega))) ?_
  dsimp only [Option.toList, List.cons_append, List.nil_append]
  refine e_mput pfX10_134 dX10_passAll_21 kml_13 rfl rfl rfl ?_
  rw [kqS_q (by omega), kFS_q (by omega)]
  refine e_aload_n rfl dX10_passAll_24 ?_
  refine e_aload_n rfl dX10_passAll_25 ?_
  refine e_aload_n rfl dX10_passAll_26 ?_
  refine e_getf fdX10_137 dX10_passAll_27 kmh_97 rfl ?_
  refine eV1 mtX10_pass miX10_pass lkX10_312 dX10_passAll_30 kmh_97 rfl rfl rfl (j_pass (k := bs + 2) kqS_31 (by omega) (kMo9_q mo (by omega))) ?_
  dsimp only [Option.toList, List.cons_append, List.nil_append]
  refine e_mput pfX10_137 dX10_passAll_33 kml_16 rfl rfl rfl ?_
  rw [kqS_q (by omega), kFS_q (by omega)]
  refine e_iconst dX10_passAll_36 ?_
  refine e_istore_n dX10_passAll_37 rfl rfl ?_
  dsimp only [List.set]
  exact j_pa_men b0 mo 500 0 0 (by omega) (by omega) (by omega)
