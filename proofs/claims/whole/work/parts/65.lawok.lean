/-! THE LAW: its cases -/
def mL_law : kM := (yL_law, cL_law, 4, some .boolean)
section KV
variable {G : kG} {M M' : kM} {d c0 s0 pc np idx : Nat} {L : List (Option Value)} {st : List Value} {h h1 : Nat → Option kC} {n n1 : Nat} {Post : kPo}
theorem eV6X {PostC : kPo} {a1 a2 a3 a4 a5 a6 : Value} (hm : kMt M' 6) (hi : kIn M') (hl : kWd (.methodLink M.1.cls idx M'.1)) (hd : decode M.2.1 pc = .ok (.invokevirtual idx, 3)) {i ci : Nat} {fs : List Value} (he : h i = some (kob ci fs)) (hq : (vwCl[ci]?).map (fun q => q.1) = some M'.1.cls) (hav : Nat.ble (lg_sl (.ref (gB G + i) :: [a1, a2, a3, a4, a5, a6] : List Value)).length M'.2.2.1 = true) (hrm : Nat.ble (st.map fun v => v.category).sum 8 = true) (hC : kCall G M' d 1 4 (.ref (gB G + i) :: [a1, a2, a3, a4, a5, a6]) h n PostC) (kk : ∀ (r : Option Value) (h' : Nat → Option kC) (n' : Nat), PostC r h' n' → kE G M (d + 1) c0 s0 (pc + 3) L (r.toList ++ st) h' n' Post) : kE G M (d + 1) (c0 + 1) (s0 + 4) pc L (a6 :: a5 :: a4 :: a3 :: a2 :: a1 :: .ref (gB G + i) :: st) h n Post := by
  obtain ⟨q, hq1, hq2⟩ := Option.map_eq_some_iff.mp hq
  have h9 := e_callV (L := L) (c2 := c0) (s2 := s0) (st := st) (Post := Post) hm hi hl hd he hq1 hq2.symm rfl (Nat.le_of_ble_eq_true hav) (Nat.le_of_ble_eq_true hrm) hC kk (stk := a6 :: a5 :: a4 :: a3 :: a2 :: a1 :: .ref (gB G + i) :: st) rfl
  rw [Nat.add_comm 1 c0, Nat.add_comm 4 s0] at h9
  exact h9
theorem eV7X {PostC : kPo} {a1 a2 a3 a4 a5 a6 a7 : Value} (hm : kMt M' 7) (hi : kIn M') (hl : kWd (.methodLink M.1.cls idx M'.1)) (hd : decode M.2.1 pc = .ok (.invokevirtual idx, 3)) {i ci : Nat} {fs : List Value} (he : h i = some (kob ci fs)) (hq : (vwCl[ci]?).map (fun q => q.1) = some M'.1.cls) (hav : Nat.ble (lg_sl (.ref (gB G + i) :: [a1, a2, a3, a4, a5, a6, a7] : List Value)).length M'.2.2.1 = true) (hrm : Nat.ble (st.map fun v => v.category).sum 8 = true) (hC : kCall G M' d 1 4 (.ref (gB G + i) :: [a1, a2, a3, a4, a5, a6, a7]) h n PostC) (kk : ∀ (r : Option Value) (h' : Nat → Option kC) (n' : Nat), PostC r h' n' → kE G M (d + 1) c0 s0 (pc + 3) L (r.toList ++ st) h' n' Post) : kE G M (d + 1) (c0 + 1) (s0 + 4) pc L (a7 :: a6 :: a5 :: a4 :: a3 :: a2 :: a1 :: .ref (gB G + i) :: st) h n Post := by
  obtain ⟨q, hq1, hq2⟩ := Option.map_eq_some_iff.mp hq
  have h9 := e_callV (L := L) (c2 := c0) (s2 := s0) (st := st) (Post := Post) hm hi hl hd he hq1 hq2.symm rfl (Nat.le_of_ble_eq_true hav) (Nat.le_of_ble_eq_true hrm) hC kk (stk := a7 :: a6 :: a5 :: a4 :: a3 :: a2 :: a1 :: .ref (gB G + i) :: st) rfl
  rw [Nat.add_comm 1 c0, Nat.add_comm 4 s0] at h9
  exact h9
theorem eV8X {PostC : kPo} {a1 a2 a3 a4 a5 a6 a7 a8 : Value} (hm : kMt M' 8) (hi : kIn M') (hl : kWd (.methodLink M.1.cls idx M'.1)) (hd : decode M.2.1 pc = .ok (.invokevirtual idx, 3)) {i ci : Nat} {fs : List Value} (he : h i = some (kob ci fs)) (hq : (vwCl[ci]?).map (fun q => q.1) = some M'.1.cls) (hav : Nat.ble (lg_sl (.ref (gB G + i) :: [a1, a2, a3, a4, a5, a6, a7, a8] : List Value)).length M'.2.2.1 = true) (hrm : Nat.ble (st.map fun v => v.category).sum 8 = true) (hC : kCall G M' d 1 4 (.ref (gB G + i) :: [a1, a2, a3, a4, a5, a6, a7, a8]) h n PostC) (kk : ∀ (r : Option Value) (h' : Nat → Option kC) (n' : Nat), PostC r h' n' → kE G M (d + 1) c0 s0 (pc + 3) L (r.toList ++ st) h' n' Post) : kE G M (d + 1) (c0 + 1) (s0 + 4) pc L (a8 :: a7 :: a6 :: a5 :: a4 :: a3 :: a2 :: a1 :: .ref (gB G + i) :: st) h n Post := by
  obtain ⟨q, hq1, hq2⟩ := Option.map_eq_some_iff.mp hq
  have h9 := e_callV (L := L) (c2 := c0) (s2 := s0) (st := st) (Post := Post) hm hi hl hd he hq1 hq2.symm rfl (Nat.le_of_ble_eq_true hav) (Nat.le_of_ble_eq_true hrm) hC kk (stk := a8 :: a7 :: a6 :: a5 :: a4 :: a3 :: a2 :: a1 :: .ref (gB G + i) :: st) rfl
  rw [Nat.add_comm 1 c0, Nat.add_comm 4 s0] at h9
  exact h9
end KV
theorem kmh_keep {G : kG} {h h' : Nat → Option kC} {n : Nat} {q : Nat → Int} {F : Nat → Nat → Int} (hn : 115 ≤ n) (hk : ∀ j, 96 < j → j < n → h' j = kmh G h q F j) : h' = kmh G h' q F := by
  funext j
  by_cases e : j < 97 ∨ 114 < j
  · rw [kmh_o e]
  · rw [hk j (by omega) (by omega)]
    unfold kmh
    by_cases e1 : j = 97
    · rw [if_pos e1, if_pos e1]
    · rw [if_neg e1, if_neg e1]
      by_cases e2 : 98 ≤ j ∧ j ≤ 113
      · rw [if_pos e2, if_pos e2]
      · rw [if_neg e2, if_neg e2, if_pos (by omega), if_pos (by omega)]
theorem k_men {G : kG} {d : Nat} {h : Nat → Option kC} {n : Nat} {Z : kCs} (g : rSt G) (z : rKI G h Z) (ok : kCok Z) {b : Int} (hb : inI b) {x : Int} (hx : inI x) {v : Int} (hv : inI v) : kCall G mX9_men (d + 3) 0 0 [.ref (gB G + 0), .int (jI b), .int (jI x), .int (jI v)] h n (kQc G h n (.int (jI (a_men Z b x v))) (s_men Z b x v)) := by
  by_cases c9 : 0 ≤ b ∧ b ≤ 5
  · exact k_menY g z ok hb c9 hx hv
  · exact kCall.deep (k_menN g z ok hb c9) (Nat.le_refl _ |> fun _ => by omega)
theorem ok_men {Z : kCs} (ok : kCok Z) (b x v : Int) : kCok (s_men Z b x v) := by
  unfold s_men
  split
  · rename_i c
    refine kZA_ok ok (fun j hj => ?_)
    unfold up
    split
    · omega
    · exact ok.1.1 b.toNat (by omega) j hj
  · exact ok
theorem ok_set {Z : kCs} (ok : kCok Z) (b x v : Int) : kCok (s_set Z b x v) := by
  unfold s_set
  split
  · rename_i c
    obtain ⟨⟨a1, a2, a3⟩, o2⟩ := ok
    refine ⟨⟨a1, fun i hi => ?_, a3⟩, o2⟩
    show kEok (up2 (hE (cN Z)) b.toNat (up (hE (cN Z) b.toNat) x.toNat v) i)
    unfold up2
    split
    · obtain ⟨e0, e1, e2⟩ := a2 b.toNat (by omega)
      obtain ⟨c1, c2, c3, c4⟩ := c
      rcases (show x = 0 ∨ x = 1 ∨ x = 2 by omega) with e | e | e <;> subst e
      · have h1 : kLE (0 : Int).toNat = 0 ∧ kME (0 : Int).toNat = 99 := by decide
        exact ⟨by show 0 ≤ v ∧ v ≤ 99; omega, e1, e2⟩
      · have h1 : kLE (1 : Int).toNat = 14 ∧ kME (1 : Int).toNat = 40 := by decide
        exact ⟨e0, by show 14 ≤ v ∧ v ≤ 40; omega, e2⟩
      · have h1 : kLE (2 : Int).toNat = 0 ∧ kME (2 : Int).toNat = 2 := by decide
        exact ⟨e0, e1, by show 0 ≤ v ∧ v ≤ 2; omega⟩
    · exact a2 i hi
  · exact ok
theorem ok_way {Z : kCs} (ok : kCok Z) (x v : Int) : kCok (s_way Z x v) := by
  unfold s_way
  split
  · rename_i c
    obtain ⟨⟨a1, a2, ⟨w0, w1, w2, w3, w4⟩, a4⟩, o2⟩ := ok
    refine ⟨⟨a1, a2, ?_, a4⟩, o2⟩
    show kWok (up (hW (cN Z)) x.toNat v)
    obtain ⟨c1, c2⟩ := c
    rcases (show x = 0 ∨ x = 1 ∨ x = 2 ∨ x = 3 ∨ x = 4 by omega) with e | e | e | e | e <;> subst e
    · have h1 : kMW (0 : Int).toNat = 9 := by decide
      exact ⟨by show 0 ≤ v ∧ v ≤ 9; omega, w1, w2, w3, w4⟩
    · have h1 : kMW (1 : Int).toNat = 9 := by decide
      exact ⟨w0, by show 0 ≤ v ∧ v ≤ 9; omega, w2, w3, w4⟩
    · have h1 : kMW (2 : Int).toNat = 4 := by decide
      exact ⟨w0, w1, by show 0 ≤ v ∧ v ≤ 4; omega, w3, w4⟩
    · have h1 : kMW (3 : Int).toNat = 10 := by decide
      exact ⟨w0, w1, w2, by show 0 ≤ v ∧ v ≤ 10; omega, w4⟩
    · have h1 : kMW (4 : Int).toNat = 10 := by decide
      exact ⟨w0, w1, w2, w3, by show 0 ≤ v ∧ v ≤ 10; omega⟩
  · exact ok
theorem ok_say {Z : kCs} (ok : kCok Z) (x : Int) : kCok (s_say Z x) := by
  unfold s_say
  split
  · rename_i c
    obtain ⟨o1, ⟨p0, p1, p2⟩, o3⟩ := ok
    refine ⟨o1, ⟨by show 0 ≤ (cP Z).1 + 1; omega, by show (cP Z).1 + 1 ≤ 60; omega, fun j hj => ?_⟩, o3⟩
    show 0 ≤ up (cP Z).2 (cP Z).1.toNat x j ∧ up (cP Z).2 (cP Z).1.toNat x j ≤ 126
    unfold up
    split
    · omega
    · exact p2 j hj
  · exact ok
theorem ok_wipe {Z : kCs} (ok : kCok Z) : kCok (s_wipe Z) := ⟨ok.1, ⟨Int.le_refl 0, by show (0 : Int) ≤ 60; decide, ok.2.1.2.2⟩, ok.2.2⟩
/-- numbers of a text without a FAULT stay small -/
def kNb (s nu : Int) : Prop := 0 ≤ nu ∧ nu ≤ 99 ∧ (s = 4 ∨ s = 8 ∨ s = 11 → nu ≤ 9) ∧ (s = 5 ∨ s = 9 ∨ s = 12 ∨ s = 14 ∨ s = 4 ∨ s = 8 ∨ s = 11 ∨ nu = 0)
theorem kNb_0 {s : Int} : kNb s 0 := ⟨Int.le_refl 0, by decide, fun _ => by decide, by omega⟩
theorem kNb_n {s : Int} (h0 : 0 ≤ s ∧ s ≤ 14) {x nu : Int} (hn : kaf s x ≠ -1) (hb : kNb s nu) : kNb (kaf s x) (if 48 ≤ x ∧ x ≤ 57 then 10 * nu + x - 48 else if x = 38 ∨ x = 58 ∨ x = 59 then 0 else nu) ∧ kNb (kaf s x) (if 48 ≤ x ∧ x ≤ 57 then 10 * nu + x - 48 else 0) := by
  obtain ⟨b1, b2, b3, b4⟩ := hb
  by_cases h9 : s ≤ 9
  · rcases kaf_inv (x := x) (show 0 ≤ s ∧ s ≤ 9 by omega) with e | ⟨e, e1, e2⟩ | ⟨e, e1, e2⟩ | ⟨e, e1, e2⟩ | ⟨e, e1, e2⟩ | ⟨e, e1, e2⟩ | ⟨e, e1, e2⟩ | ⟨e, e1, e2⟩ | ⟨e, e1, e2⟩ | ⟨e, e1, e2⟩ | ⟨e, e1, e2⟩
    · exact absurd e hn
    · rw [if_neg (by omega), if_pos (by omega), if_neg (by omega)]; exact ⟨kNb_0, kNb_0⟩
    · rw [if_neg (by omega), if_pos (by omega), if_neg (by omega)]; exact ⟨kNb_0, kNb_0⟩
    · have z : nu = 0 := by rcases e1 with e1 | e1 <;> subst e1 <;> simpa using b4
      rw [if_neg (by omega), if_neg (by omega), if_neg (by omega), z]; exact ⟨kNb_0, kNb_0⟩
    · have z : nu = 0 := by subst e1; simpa using b4
      rw [if_neg (by omega), if_neg (by omega), if_neg (by omega), z]; exact ⟨kNb_0, kNb_0⟩
    · have z : nu = 0 := by subst e1; simpa using b4
      rw [if_pos e2, if_pos e2, e, z]
      have q : kNb 4 (10 * 0 + x - 48) := ⟨by omega, by omega, fun _ => by omega, by omega⟩
      exact ⟨q, q⟩
    · have z := b3 (Or.inl e1)
      rw [if_pos e2, if_pos e2, e]
      have q : kNb 5 (10 * nu + x - 48) := ⟨by omega, by omega, fun w => by omega, by omega⟩
      exact ⟨q, q⟩
    · have z : nu = 0 := by subst e1; simpa using b4
      rw [if_neg (by omega), if_neg (by omega), if_neg (by omega), z]; exact ⟨kNb_0, kNb_0⟩
    · rw [if_neg (by omega), if_pos (by omega), if_neg (by omega)]; exact ⟨kNb_0, kNb_0⟩
    · have z : nu = 0 := by subst e1; simpa using b4
      rw [if_pos e2, if_pos e2, e, z]
      have q : kNb 8 (10 * 0 + x - 48) := ⟨by omega, by omega, fun _ => by omega, by omega⟩
      exact ⟨q, q⟩
    · have z := b3 (Or.inr (Or.inl e1))
      rw [if_pos e2, if_pos e2, e]
      have q : kNb 9 (10 * nu + x - 48) := ⟨by omega, by omega, fun w => by omega, by omega⟩
      exact ⟨q, q⟩
  · rcases kaf_ing (x := x) (show 10 ≤ s ∧ s ≤ 14 by omega) with e | ⟨e, e1, e2⟩ | ⟨e, e1, e2⟩ | ⟨e, e1, e2⟩ | ⟨e, e1, e2⟩ | ⟨e, e1, e2⟩
    · exact absurd e hn
    · rw [if_neg (by omega), if_pos (by omega), if_neg (by omega)]; exact ⟨kNb_0, kNb_0⟩
    · have z : nu = 0 := by subst e1; simpa using b4
      rw [if_pos e2, if_pos e2, e, z]
      have q : kNb 11 (10 * 0 + x - 48) := ⟨by omega, by omega, fun _ => by omega, by omega⟩
      exact ⟨q, q⟩
    · have z := b3 (Or.inr (Or.inr e1))
      rw [if_pos e2, if_pos e2, e]
      have q : kNb 12 (10 * nu + x - 48) := ⟨by omega, by omega, fun w => by omega, by omega⟩
      exact ⟨q, q⟩
    · rw [if_neg (by omega), if_pos (by omega), if_neg (by omega)]; exact ⟨kNb_0, kNb_0⟩
    · have z : nu = 0 := by subst e1; simpa using b4
      rw [if_pos e2, if_pos e2, e, z]
      have q : kNb 14 (10 * 0 + x - 48) := ⟨by omega, by omega, fun w => by omega, by omega⟩
      exact ⟨q, q⟩
theorem kno_ok {T : Nat → Int} {s0 : Int} (h0 : 0 ≤ s0 ∧ s0 ≤ 14) {c : Nat} (hc : krun T s0 c ≠ -1) : ∀ {f i : Nat} {nu : Int}, i + f = c → kNb (krun T s0 i) nu → kno T f i nu ∧ kng T f i nu
  | 0, i, nu, _, hb => ⟨⟨hb.1, by have := hb.2.1; omega⟩, ⟨hb.1, by have := hb.2.1; omega⟩⟩
  | f + 1, i, nu, hi, hb => by
    have r1 := krun_ns hc (show i ≤ c by omega)
    have r2 := krun_ns hc (show i + 1 ≤ c by omega)
    have r3 := krun_in T (s0 := s0) (by omega) i
    have e : krun T s0 (i + 1) = kaf (krun T s0 i) (T i) := by
      show (if krun T s0 i = -1 then (-1 : Int) else _) = _
      rw [if_neg r1]
    rw [e] at r2
    have q := kNb_n (by omega) r2 hb
    rw [← e] at q
    exact ⟨⟨⟨hb.1, by have := hb.2.1; omega⟩, (kno_ok h0 hc (f := f) (i := i + 1) (by omega) q.1).1⟩, ⟨⟨hb.1, by have := hb.2.1; omega⟩, (kno_ok h0 hc (f := f) (i := i + 1) (by omega) q.2).2⟩⟩
theorem kTok_take {Z : kCs} (ok : kCok Z) {how : Int} (hf : kfault (cP Z).2 (cP Z).1 how = -6) : kTok how (cP Z) := by
  obtain ⟨p0, p1, p2⟩ := ok.2.1
  have r := kfault_n p0 hf
  have q := kno_ok (T := (cP Z).2) (s0 := if how = 0 then 0 else 10) (by split <;> omega) (c := (cP Z).1.toNat) (by omega) (f := (cP Z).1.toNat) (i := 0) (nu := 0) (by omega) kNb_0
  exact ⟨p0, p1, p2, Or.inr hf, q.1, q.2⟩
theorem ok_take {Z : kCs} (ok : kCok Z) (x : Int) : kCok (s_take Z x) := by
  unfold s_take
  split
  · rename_i c
    have t := kTok_take ok c.2
    obtain ⟨⟨a1, a2, a3, a4, a5⟩, ⟨p0, p1, p2⟩, o3⟩ := ok
    refine ⟨?_, ⟨Int.le_refl 0, by show (0 : Int) ≤ 60; decide, p2⟩, o3⟩
    rcases (show x = 0 ∨ x = 1 by omega) with e | e <;> subst e
    · exact ⟨a1, a2, a3, t, a5⟩
    · exact ⟨a1, a2, a3, a4, t⟩
  · exact ok
theorem ok_make {Z : kCs} (ok : kCok Z) (b u m w x : Int) : kCok (s_make Z b u m w x) := by
  unfold s_make
  split
  · rename_i c
    exact kZA_ok ok (kmk_ok ok.1 (by omega) (by omega) (by omega) (by omega))
  · exact ok
theorem ok_image {Z : kCs} (ok : kCok Z) (x : Int) : kCok (s_image Z x) := by
  unfold s_image
  split
  · obtain ⟨o1, o2, o3, o4⟩ := ok
    refine ⟨o1, o2, fun i hi => ?_, fun i hi => ?_⟩
    · show kHok (upH (cI Z) x.toNat (cN Z) i)
      unfold upH
      split
      · exact o1
      · exact o3 i hi
    · show up (cK Z) x.toNat 1 i = 0 ∨ up (cK Z) x.toNat 1 i = 1
      unfold up
      split
      · exact Or.inr rfl
      · exact o4 i hi
  · exact ok
theorem ok_restore {Z : kCs} (ok : kCok Z) (x : Int) : kCok (s_restore Z x) := by
  unfold s_restore
  split
  · rename_i c
    exact ⟨ok.2.2.1 x.toNat (by omega), ok.2⟩
  · exact ok
