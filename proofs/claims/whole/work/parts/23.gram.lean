/-! THE RULE, GROWTH: what may stand where; what a text says -/
def kbeg (x : Int) : Int := if x = 121 ∨ x = 97 then 2 else -1
def kend (x : Int) : Int := if x = 38 then 1 else if x = 58 then 7 else -1
def kaf (s x : Int) : Int :=
  if s = 0 then (if x = 42 then 6 else kbeg x) else if s = 1 then kbeg x else if s = 2 then (if x = 60 ∨ x = 62 ∨ x = 61 then 3 else -1)
  else if s = 3 then (if 48 ≤ x ∧ x ≤ 57 then 4 else -1) else if s = 4 then (if 48 ≤ x ∧ x ≤ 57 then 5 else kend x) else if s = 5 then kend x
  else if s = 6 then (if x = 58 then 7 else -1) else if s = 7 then (if 48 ≤ x ∧ x ≤ 57 then 8 else -1) else if s = 8 then (if 48 ≤ x ∧ x ≤ 57 then 9 else if x = 59 then 0 else -1)
  else if s = 9 then (if x = 59 then 0 else -1) else if s = 10 then (if 48 ≤ x ∧ x ≤ 57 then 11 else -1) else if s = 11 then (if 48 ≤ x ∧ x ≤ 57 then 12 else if x = 58 then 13 else -1)
  else if s = 12 then (if x = 58 then 13 else -1) else if s = 13 then (if 48 ≤ x ∧ x ≤ 57 then 14 else -1) else if s = 14 then (if x = 59 then 10 else -1) else -1
theorem kaf_0 (x : Int) : kaf 0 x = if x = 42 then 6 else kbeg x := rfl
theorem kaf_1 (x : Int) : kaf 1 x = kbeg x := rfl
theorem kaf_2 (x : Int) : kaf 2 x = if x = 60 ∨ x = 62 ∨ x = 61 then 3 else -1 := rfl
theorem kaf_3 (x : Int) : kaf 3 x = if 48 ≤ x ∧ x ≤ 57 then 4 else -1 := rfl
theorem kaf_4 (x : Int) : kaf 4 x = if 48 ≤ x ∧ x ≤ 57 then 5 else kend x := rfl
theorem kaf_5 (x : Int) : kaf 5 x = kend x := rfl
theorem kaf_6 (x : Int) : kaf 6 x = if x = 58 then 7 else -1 := rfl
theorem kaf_7 (x : Int) : kaf 7 x = if 48 ≤ x ∧ x ≤ 57 then 8 else -1 := rfl
theorem kaf_8 (x : Int) : kaf 8 x = if 48 ≤ x ∧ x ≤ 57 then 9 else if x = 59 then 0 else -1 := rfl
theorem kaf_9 (x : Int) : kaf 9 x = if x = 59 then 0 else -1 := rfl
theorem kaf_10 (x : Int) : kaf 10 x = if 48 ≤ x ∧ x ≤ 57 then 11 else -1 := rfl
theorem kaf_11 (x : Int) : kaf 11 x = if 48 ≤ x ∧ x ≤ 57 then 12 else if x = 58 then 13 else -1 := rfl
theorem kaf_12 (x : Int) : kaf 12 x = if x = 58 then 13 else -1 := rfl
theorem kaf_13 (x : Int) : kaf 13 x = if 48 ≤ x ∧ x ≤ 57 then 14 else -1 := rfl
theorem kaf_14 (x : Int) : kaf 14 x = if x = 59 then 10 else -1 := rfl
/-- the state behind i signs; THE FAULT -/
def krun (F : Nat → Int) (s0 : Int) : Nat → Int
  | 0 => s0
  | i + 1 => if krun F s0 i = -1 then -1 else kaf (krun F s0 i) (F i)
def kfs (F : Nat → Int) (s0 : Int) : Nat → Int
  | 0 => -1
  | i + 1 => if 0 ≤ kfs F s0 i then kfs F s0 i else if krun F s0 (i + 1) = -1 then (i : Int) else -1
def kfault (F : Nat → Int) (c how : Int) : Int :=
  if 0 ≤ kfs F (if how = 0 then 0 else 10) c.toNat then kfs F (if how = 0 then 0 else 10) c.toNat
  else if krun F (if how = 0 then 0 else 10) c.toNat = 8 ∨ krun F (if how = 0 then 0 else 10) c.toNat = 9 ∨ krun F (if how = 0 then 0 else 10) c.toNat = 14 then -6 else c
theorem kaf_in (s x : Int) : -1 ≤ kaf s x ∧ kaf s x ≤ 14 := by
  unfold kaf kbeg kend
  (repeat' split) <;> omega
theorem krun_in (F : Nat → Int) {s0 : Int} (h : -1 ≤ s0 ∧ s0 ≤ 14) : ∀ i, -1 ≤ krun F s0 i ∧ krun F s0 i ≤ 14
  | 0 => h
  | i + 1 => by
    unfold krun
    split
    · omega
    · exact kaf_in _ _
theorem kfs_keep (F : Nat → Int) (s0 : Int) {i : Nat} (h : 0 ≤ kfs F s0 i) : ∀ {j : Nat}, i ≤ j → kfs F s0 j = kfs F s0 i
  | 0, hj => by rw [show i = 0 by omega]
  | j + 1, hj => by
    by_cases e : i = j + 1
    · rw [e]
    · have h1 := kfs_keep F s0 h (show i ≤ j by omega)
      show (if 0 ≤ kfs F s0 j then kfs F s0 j else _) = _
      rw [if_pos (by rw [h1]; exact h), h1]
theorem kfs_lo (F : Nat → Int) (s0 : Int) : ∀ i, -1 ≤ kfs F s0 i
  | 0 => by unfold kfs; omega
  | i + 1 => by
    unfold kfs
    have := kfs_lo F s0 i
    (repeat' split) <;> omega
set_option maxHeartbeats 4000000 in
set_option maxRecDepth 100000 in
theorem k_isDigit {G : kG} {d : Nat} {h : Nat → Option kC} {n : Nat} {x : Int} (hx : inI x) : kCall G mX1_isDigit d 0 0 [.int (jI x)] h n (kre (some (.int (jI (if 48 ≤ x ∧ x ≤ 57 then 1 else 0)))) h n) := by
  show kE G mX1_isDigit d 0 0 0 [some (.int (jI x))] [] h n _
  refine e_iload_n rfl dX1_isDigit_0 ?_
  refine e_bipush (by decide) dX1_isDigit_1 ?_
  refine e_icmp_lt (tgt := 16) dX1_isDigit_3 (by decide) (by first | assumption | (unfold inI at *; omega)) (by first | assumption | (unfold inI at *; omega)) (fun c3 => ?_) (fun c3 => ?_)
  · refine e_iconst dX1_isDigit_16 ?_
    refine e_ireturn dX1_isDigit_17 rfl (by decide) ?_
    exact ⟨by (repeat' split) <;> first | rfl | (exfalso; omega), rfl, rfl⟩
  · refine e_iload_n rfl dX1_isDigit_6 ?_
    refine e_bipush (by decide) dX1_isDigit_7 ?_
    refine e_icmp_gt (tgt := 16) dX1_isDigit_9 (by decide) (by first | assumption | (unfold inI at *; omega)) (by first | assumption | (unfold inI at *; omega)) (fun c9 => ?_) (fun c9 => ?_)
    · refine e_iconst dX1_isDigit_16 ?_
      refine e_ireturn dX1_isDigit_17 rfl (by decide) ?_
      exact ⟨by (repeat' split) <;> first | rfl | (exfalso; omega), rfl, rfl⟩
    · refine e_iconst dX1_isDigit_12 ?_
      refine e_goto (tgt := 17) dX1_isDigit_13 (by decide) ?_
      refine e_ireturn dX1_isDigit_17 rfl (by decide) ?_
      exact ⟨by (repeat' split) <;> first | rfl | (exfalso; omega), rfl, rfl⟩
set_option maxHeartbeats 4000000 in
set_option maxRecDepth 100000 in
theorem k_beginTest {G : kG} {d : Nat} {h : Nat → Option kC} {n : Nat} {x : Int} (hx : inI x) : kCall G mX1_beginTest d 0 0 [.int (jI x)] h n (kre (some (.int (jI (kbeg x)))) h n) := by
  show kE G mX1_beginTest d 0 0 0 [some (.int (jI x))] [] h n _
  refine e_iload_n rfl dX1_beginTest_0 ?_
  refine e_bipush (by decide) dX1_beginTest_1 ?_
  refine e_icmp_eq (tgt := 12) dX1_beginTest_3 (by decide) (by first | assumption | (unfold inI at *; omega)) (by first | assumption | (unfold inI at *; omega)) (fun c3 => ?_) (fun c3 => ?_)
  · refine e_iconst dX1_beginTest_12 ?_
    refine e_goto (tgt := 17) dX1_beginTest_13 (by decide) ?_
    refine e_ireturn dX1_beginTest_17 rfl rfl ?_
    exact ⟨by unfold kbeg; (repeat' split) <;> first | rfl | (exfalso; omega), rfl, rfl⟩
  · refine e_iload_n rfl dX1_beginTest_6 ?_
    refine e_bipush (by decide) dX1_beginTest_7 ?_
    refine e_icmp_ne (tgt := 16) dX1_beginTest_9 (by decide) (by first | assumption | (unfold inI at *; omega)) (by first | assumption | (unfold inI at *; omega)) (fun c9 => ?_) (fun c9 => ?_)
    · refine e_iconst dX1_beginTest_16 ?_
      refine e_ireturn dX1_beginTest_17 rfl rfl ?_
      exact ⟨by unfold kbeg; (repeat' split) <;> first | rfl | (exfalso; omega), rfl, rfl⟩
    · refine e_iconst dX1_beginTest_12 ?_
      refine e_goto (tgt := 17) dX1_beginTest_13 (by decide) ?_
      refine e_ireturn dX1_beginTest_17 rfl rfl ?_
      exact ⟨by unfold kbeg; (repeat' split) <;> first | rfl | (exfalso; omega), rfl, rfl⟩
set_option maxHeartbeats 4000000 in
set_option maxRecDepth 100000 in
theorem k_endTest {G : kG} {d : Nat} {h : Nat → Option kC} {n : Nat} {x : Int} (hx : inI x) : kCall G mX1_endTest d 0 0 [.int (jI x)] h n (kre (some (.int (jI (kend x)))) h n) := by
  show kE G mX1_endTest d 0 0 0 [some (.int (jI x))] [] h n _
  refine e_iload_n rfl dX1_endTest_0 ?_
  refine e_bipush (by decide) dX1_endTest_1 ?_
  refine e_icmp_ne (tgt := 8) dX1_endTest_3 (by decide) (by first | assumption | (unfold inI at *; omega)) (by first | assumption | (unfold inI at *; omega)) (fun c3 => ?_) (fun c3 => ?_)
  · refine e_iload_n rfl dX1_endTest_8 ?_
    refine e_bipush (by decide) dX1_endTest_9 ?_
    refine e_icmp_ne (tgt := 19) dX1_endTest_11 (by decide) (by first | assumption | (unfold inI at *; omega)) (by first | assumption | (unfold inI at *; omega)) (fun c11 => ?_) (fun c11 => ?_)
    · refine e_iconst dX1_endTest_19 ?_
      refine e_ireturn dX1_endTest_20 rfl rfl ?_
      exact ⟨by unfold kend; (repeat' split) <;> first | rfl | (exfalso; omega), rfl, rfl⟩
    · refine e_bipush (by decide) dX1_endTest_14 ?_
      refine e_goto (tgt := 20) dX1_endTest_16 (by decide) ?_
      refine e_ireturn dX1_endTest_20 rfl rfl ?_
      exact ⟨by unfold kend; (repeat' split) <;> first | rfl | (exfalso; omega), rfl, rfl⟩
  · refine e_iconst dX1_endTest_6 ?_
    refine e_ireturn dX1_endTest_7 rfl rfl ?_
    exact ⟨by unfold kend; (repeat' split) <;> first | rfl | (exfalso; omega), rfl, rfl⟩
set_option maxHeartbeats 4000000 in
set_option maxRecDepth 100000 in
theorem k_endAge {G : kG} {d : Nat} {h : Nat → Option kC} {n : Nat} {x : Int} (hx : inI x) : kCall G mX1_endAge d 0 0 [.int (jI x)] h n (kre (some (.int (jI (if x = 58 then 13 else -1)))) h n) := by
  show kE G mX1_endAge d 0 0 0 [some (.int (jI x))] [] h n _
  refine e_iload_n rfl dX1_endAge_0 ?_
  refine e_bipush (by decide) dX1_endAge_1 ?_
  refine e_icmp_ne (tgt := 11) dX1_endAge_3 (by decide) (by first | assumption | (unfold inI at *; omega)) (by first | assumption | (unfold inI at *; omega)) (fun c3 => ?_) (fun c3 => ?_)
  · refine e_iconst dX1_endAge_11 ?_
    refine e_ireturn dX1_endAge_12 rfl rfl ?_
    exact ⟨by (repeat' split) <;> first | rfl | (exfalso; omega), rfl, rfl⟩
  · refine e_bipush (by decide) dX1_endAge_6 ?_
    refine e_goto (tgt := 12) dX1_endAge_8 (by decide) ?_
    refine e_ireturn dX1_endAge_12 rfl rfl ?_
    exact ⟨by (repeat' split) <;> first | rfl | (exfalso; omega), rfl, rfl⟩
set_option maxHeartbeats 4000000 in
set_option maxRecDepth 100000 in
theorem k_endPiece {G : kG} {d : Nat} {h : Nat → Option kC} {n : Nat} {x y : Int} (hx : inI x) (hy : inI y) : kCall G mX1_endPiece d 0 0 [.int (jI x), .int (jI y)] h n (kre (some (.int (jI (if x = 59 then y else -1)))) h n) := by
  show kE G mX1_endPiece d 0 0 0 [some (.int (jI x)), some (.int (jI y))] [] h n _
  refine e_iload_n rfl dX1_endPiece_0 ?_
  refine e_bipush (by decide) dX1_endPiece_1 ?_
  refine e_icmp_ne (tgt := 10) dX1_endPiece_3 (by decide) (by first | assumption | (unfold inI at *; omega)) (by first | assumption | (unfold inI at *; omega)) (fun c3 => ?_) (fun c3 => ?_)
  · refine e_iconst dX1_endPiece_10 ?_
    refine e_ireturn dX1_endPiece_11 rfl rfl ?_
    exact ⟨by (repeat' split) <;> first | rfl | (exfalso; omega), rfl, rfl⟩
  · refine e_iload_n rfl dX1_endPiece_6 ?_
    refine e_goto (tgt := 11) dX1_endPiece_7 (by decide) ?_
    refine e_ireturn dX1_endPiece_11 rfl rfl ?_
    exact ⟨by (repeat' split) <;> first | rfl | (exfalso; omega), rfl, rfl⟩
set_option maxHeartbeats 4000000 in
set_option maxRecDepth 100000 in
theorem k_afterInGrowth {G : kG} {d : Nat} {h : Nat → Option kC} {n : Nat} {s x : Int} (hs : 10 ≤ s) (hs2 : s ≤ 14) (hx : inI x) : kCall G mX1_afterInGrowth (d + 1) 0 0 [.int (jI s), .int (jI x)] h n (kre (some (.int (jI (kaf s x)))) h n) := by
  show kE G mX1_afterInGrowth (d + 1) 0 0 0 [some (.int (jI s)), some (.int (jI x))] [] h n _
  refine e_iload_n rfl dX1_afterInGrowth_0 ?_
  rcases (show s = 10 ∨ s = 11 ∨ s = 12 ∨ s = 13 ∨ s = 14 ∨ (s < 10 ∨ 14 < s) by omega) with c1 | c1 | c1 | c1 | c1 | c1
  · subst c1
    refine e_tabIn (tgt := 36) dX1_afterInGrowth_1 (by unfold inI; omega) (by decide) (by decide) rfl (by decide) ?_
    refine e_iload_n rfl dX1_afterInGrowth_36 ?_
    refine eS1 mtX1_isDigit msX1_isDigit lkX1_28 dX1_afterInGrowth_37 rfl rfl (k_isDigit (by first | assumption | (unfold inI at *; omega))) ?_
    dsimp only [Option.toList, List.cons_append, List.nil_append]
    refine e_ifeqP (tgt := 48) dX1_afterInGrowth_40 (by decide) (fun c40 => ?_) (fun c40 => ?_)
    · refine e_iconst dX1_afterInGrowth_48 ?_
      refine e_ireturn dX1_afterInGrowth_49 rfl rfl ?_
      refine ⟨?_, rfl, rfl⟩
      first | rw [kaf_0] | rw [kaf_1] | rw [kaf_2] | rw [kaf_3] | rw [kaf_4] | rw [kaf_5] | rw [kaf_6] | rw [kaf_7] | rw [kaf_8] | rw [kaf_9] | rw [kaf_10] | rw [kaf_11] | rw [kaf_12] | rw [kaf_13] | rw [kaf_14]
      all_goals ((repeat' split) <;> first | rfl | (exfalso; omega))
    · refine e_bipush (by decide) dX1_afterInGrowth_43 ?_
      refine e_goto (tgt := 49) dX1_afterInGrowth_45 (by decide) ?_
      refine e_ireturn dX1_afterInGrowth_49 rfl rfl ?_
      refine ⟨?_, rfl, rfl⟩
      first | rw [kaf_0] | rw [kaf_1] | rw [kaf_2] | rw [kaf_3] | rw [kaf_4] | rw [kaf_5] | rw [kaf_6] | rw [kaf_7] | rw [kaf_8] | rw [kaf_9] | rw [kaf_10] | rw [kaf_11] | rw [kaf_12] | rw [kaf_13] | rw [kaf_14]
      all_goals ((repeat' split) <;> first | rfl | (exfalso; omega))
  · subst c1
    refine e_tabIn (tgt := 50) dX1_afterInGrowth_1 (by unfold inI; omega) (by decide) (by decide) rfl (by decide) ?_
    refine e_iload_n rfl dX1_afterInGrowth_50 ?_
    refine eS1 mtX1_isDigit msX1_isDigit lkX1_28 dX1_afterInGrowth_51 rfl rfl (k_isDigit (by first | assumption | (unfold inI at *; omega))) ?_
    dsimp only [Option.toList, List.cons_append, List.nil_append]
    refine e_ifeqP (tgt := 62) dX1_afterInGrowth_54 (by decide) (fun c54 => ?_) (fun c54 => ?_)
    · refine e_iload_n rfl dX1_afterInGrowth_62 ?_
      refine eS1 mtX1_endAge msX1_endAge lkX1_41 dX1_afterInGrowth_63 rfl rfl (k_endAge (by first | assumption | (unfold inI at *; omega))) ?_
      dsimp only [Option.toList, List.cons_append, List.nil_append]
      refine e_ireturn dX1_afterInGrowth_66 rfl rfl ?_
      refine ⟨?_, rfl, rfl⟩
      first | rw [kaf_0] | rw [kaf_1] | rw [kaf_2] | rw [kaf_3] | rw [kaf_4] | rw [kaf_5] | rw [kaf_6] | rw [kaf_7] | rw [kaf_8] | rw [kaf_9] | rw [kaf_10] | rw [kaf_11] | rw [kaf_12] | rw [kaf_13] | rw [kaf_14]
      all_goals ((repeat' split) <;> first | rfl | (exfalso; omega))
    · refine e_bipush (by decide) dX1_afterInGrowth_57 ?_
      refine e_goto (tgt := 66) dX1_afterInGrowth_59 (by decide) ?_
      refine e_ireturn dX1_afterInGrowth_66 rfl rfl ?_
      refine ⟨?_, rfl, rfl⟩
      first | rw [kaf_0] | rw [kaf_1] | rw [kaf_2] | rw [kaf_3] | rw [kaf_4] | rw [kaf_5] | rw [kaf_6] | rw [kaf_7] | rw [kaf_8] | rw [kaf_9] | rw [kaf_10] | rw [kaf_11] | rw [kaf_12] | rw [kaf_13] | rw [kaf_14]
      all_goals ((repeat' split) <;> first | rfl | (exfalso; omega))
  · subst c1
    refine e_tabIn (tgt := 67) dX1_afterInGrowth_1 (by unfold inI; omega) (by decide) (by decide) rfl (by decide) ?_
    refine e_iload_n rfl dX1_afterInGrowth_67 ?_
    refine eS1 mtX1_endAge msX1_endAge lkX1_41 dX1_afterInGrowth_68 rfl rfl (k_endAge (by first | assumption | (unfold inI at *; omega))) ?_
    dsimp only [Option.toList, List.cons_append, List.nil_append]
    refine e_ireturn dX1_afterInGrowth_71 rfl rfl ?_
    refine ⟨?_, rfl, rfl⟩
    first | rw [kaf_0] | rw [kaf_1] | rw [kaf_2] | rw [kaf_3] | rw [kaf_4] | rw [kaf_5] | rw [kaf_6] | rw [kaf_7] | rw [kaf_8] | rw [kaf_9] | rw [kaf_10] | rw [kaf_11] | rw [kaf_12] | rw [kaf_13] | rw [kaf_14]
    all_goals ((repeat' split) <;> first | rfl | (exfalso; omega))
  · subst c1
    refine e_tabIn (tgt := 72) dX1_afterInGrowth_1 (by unfold inI; omega) (by decide) (by decide) rfl (by decide) ?_
    refine e_iload_n rfl dX1_afterInGrowth_72 ?_
    refine eS1 mtX1_isDigit msX1_isDigit lkX1_28 dX1_afterInGrowth_73 rfl rfl (k_isDigit (by first | assumption | (unfold inI at *; omega))) ?_
    dsimp only [Option.toList, List.cons_append, List.nil_append]
    refine e_ifeqP (tgt := 84) dX1_afterInGrowth_76 (by decide) (fun c76 => ?_) (fun c76 => ?_)
    · refine e_iconst dX1_afterInGrowth_84 ?_
      refine e_ireturn dX1_afterInGrowth_85 rfl rfl ?_
      refine ⟨?_, rfl, rfl⟩
      first | rw [kaf_0] | rw [kaf_1] | rw [kaf_2] | rw [kaf_3] | rw [kaf_4] | rw [kaf_5] | rw [kaf_6] | rw [kaf_7] | rw [kaf_8] | rw [kaf_9] | rw [kaf_10] | rw [kaf_11] | rw [kaf_12] | rw [kaf_13] | rw [kaf_14]
      all_goals ((repeat' split) <;> first | rfl | (exfalso; omega))
    · refine e_bipush (by decide) dX1_afterInGrowth_79 ?_
      refine e_goto (tgt := 85) dX1_afterInGrowth_81 (by decide) ?_
      refine e_ireturn dX1_afterInGrowth_85 rfl rfl ?_
      refine ⟨?_, rfl, rfl⟩
      first | rw [kaf_0] | rw [kaf_1] | rw [kaf_2] | rw [kaf_3] | rw [kaf_4] | rw [kaf_5] | rw [kaf_6] | rw [kaf_7] | rw [kaf_8] | rw [kaf_9] | rw [kaf_10] | rw [kaf_11] | rw [kaf_12] | rw [kaf_13] | rw [kaf_14]
      all_goals ((repeat' split) <;> first | rfl | (exfalso; omega))
  · subst c1
    refine e_tabIn (tgt := 86) dX1_afterInGrowth_1 (by unfold inI; omega) (by decide) (by decide) rfl (by decide) ?_
    refine e_iload_n rfl dX1_afterInGrowth_86 ?_
    refine e_bipush (by decide) dX1_afterInGrowth_87 ?_
    refine eS2 mtX1_endPiece msX1_endPiece lkX1_35 dX1_afterInGrowth_89 rfl rfl (k_endPiece (by first | assumption | (unfold inI at *; omega)) (by first | assumption | (unfold inI at *; omega))) ?_
    dsimp only [Option.toList, List.cons_append, List.nil_append]
    refine e_ireturn dX1_afterInGrowth_92 rfl rfl ?_
    refine ⟨?_, rfl, rfl⟩
    first | rw [kaf_0] | rw [kaf_1] | rw [kaf_2] | rw [kaf_3] | rw [kaf_4] | rw [kaf_5] | rw [kaf_6] | rw [kaf_7] | rw [kaf_8] | rw [kaf_9] | rw [kaf_10] | rw [kaf_11] | rw [kaf_12] | rw [kaf_13] | rw [kaf_14]
    all_goals ((repeat' split) <;> first | rfl | (exfalso; omega))
  · exact absurd c1 (by omega)
set_option maxHeartbeats 4000000 in
set_option maxRecDepth 100000 in
theorem k_after {G : kG} {d : Nat} {h : Nat → Option kC} {n : Nat} {s x : Int} (hs : 0 ≤ s) (hs2 : s ≤ 14) (hx : inI x) : kCall G mX1_after (d + 2) 0 0 [.int (jI s), .int (jI x)] h n (kre (some (.int (jI (kaf s x)))) h n) := by
  show kE G mX1_after (d + 2) 0 0 0 [some (.int (jI s)), some (.int (jI x))] [] h n _
  refine e_iload_n rfl dX1_after_0 ?_
  rcases (show s = 0 ∨ s = 1 ∨ s = 2 ∨ s = 3 ∨ s = 4 ∨ s = 5 ∨ s = 6 ∨ s = 7 ∨ s = 8 ∨ s = 9 ∨ (s < 0 ∨ 9 < s) by omega) with c1 | c1 | c1 | c1 | c1 | c1 | c1 | c1 | c1 | c1 | c1
  · subst c1
    refine e_tabIn (tgt := 56) dX1_after_1 (by unfold inI; omega) (by decide) (by decide) rfl (by decide) ?_
    refine e_iload_n rfl dX1_after_56 ?_
    refine e_bipush (by decide) dX1_after_57 ?_
    refine e_icmp_ne (tgt := 67) dX1_after_59 (by decide) (by first | assumption | (unfold inI at *; omega)) (by first | assumption | (unfold inI at *; omega)) (fun c59 => ?_) (fun c59 => ?_)
    · refine e_iload_n rfl dX1_after_67 ?_
      refine eS1 mtX1_beginTest msX1_beginTest lkX1_25 dX1_after_68 rfl rfl (k_beginTest (by first | assumption | (unfold inI at *; omega))) ?_
      dsimp only [Option.toList, List.cons_append, List.nil_append]
      refine e_ireturn dX1_after_71 rfl rfl ?_
      refine ⟨?_, rfl, rfl⟩
      first | rw [kaf_0] | rw [kaf_1] | rw [kaf_2] | rw [kaf_3] | rw [kaf_4] | rw [kaf_5] | rw [kaf_6] | rw [kaf_7] | rw [kaf_8] | rw [kaf_9] | rw [kaf_10] | rw [kaf_11] | rw [kaf_12] | rw [kaf_13] | rw [kaf_14]
      all_goals ((repeat' split) <;> first | rfl | (exfalso; omega))
    · refine e_bipush (by decide) dX1_after_62 ?_
      refine e_goto (tgt := 71) dX1_after_64 (by decide) ?_
      refine e_ireturn dX1_after_71 rfl rfl ?_
      refine ⟨?_, rfl, rfl⟩
      first | rw [kaf_0] | rw [kaf_1] | rw [kaf_2] | rw [kaf_3] | rw [kaf_4] | rw [kaf_5] | rw [kaf_6] | rw [kaf_7] | rw [kaf_8] | rw [kaf_9] | rw [kaf_10] | rw [kaf_11] | rw [kaf_12] | rw [kaf_13] | rw [kaf_14]
      all_goals ((repeat' split) <;> first | rfl | (exfalso; omega))
  · subst c1
    refine e_tabIn (tgt := 72) dX1_after_1 (by unfold inI; omega) (by decide) (by decide) rfl (by decide) ?_
    refine e_iload_n rfl dX1_after_72 ?_
    refine eS1 mtX1_beginTest msX1_beginTest lkX1_25 dX1_after_73 rfl rfl (k_beginTest (by first | assumption | (unfold inI at *; omega))) ?_
    dsimp only [Option.toList, List.cons_append, List.nil_append]
    refine e_ireturn dX1_after_76 rfl rfl ?_
    refine ⟨?_, rfl, rfl⟩
    first | rw [kaf_0] | rw [kaf_1] | rw [kaf_2] | rw [kaf_3] | rw [kaf_4] | rw [kaf_5] | rw [kaf_6] | rw [kaf_7] | rw [kaf_8] | rw [kaf_9] | rw [kaf_10] | rw [kaf_11] | rw [kaf_12] | rw [kaf_13] | rw [kaf_14]
    all_goals ((repeat' split) <;> first | rfl | (exfalso; omega))
  · subst c1
    refine e_tabIn (tgt := 77) dX1_after_1 (by unfold inI; omega) (by decide) (by decide) rfl (by decide) ?_
    refine e_iload_n rfl dX1_after_77 ?_
    refine e_bipush (by decide) dX1_after_78 ?_
    refine e_icmp_eq (tgt := 95) dX1_after_80 (by decide) (by first | assumption | (unfold inI at *; omega)) (by first | assumption | (unfold inI at *; omega)) (fun c80 => ?_) (fun c80 => ?_)
    · refine e_iconst dX1_after_95 ?_
      refine e_goto (tgt := 100) dX1_after_96 (by decide) ?_
      refine e_ireturn dX1_after_100 rfl rfl ?_
      refine ⟨?_, rfl, rfl⟩
      first | rw [kaf_0] | rw [kaf_1] | rw [kaf_2] | rw [kaf_3] | rw [kaf_4] | rw [kaf_5] | rw [kaf_6] | rw [kaf_7] | rw [kaf_8] | rw [kaf_9] | rw [kaf_10] | rw [kaf_11] | rw [kaf_12] | rw [kaf_13] | rw [kaf_14]
      all_goals ((repeat' split) <;> first | rfl | (exfalso; omega))
    · refine e_iload_n rfl dX1_after_83 ?_
      refine e_bipush (by decide) dX1_after_84 ?_
      refine e_icmp_eq (tgt := 95) dX1_after_86 (by decide) (by first | assumption | (unfold inI at *; omega)) (by first | assumption | (unfold inI at *; omega)) (fun c86 => ?_) (fun c86 => ?_)
      · refine e_iconst dX1_after_95 ?_
        refine e_goto (tgt := 100) dX1_after_96 (by decide) ?_
        refine e_ireturn dX1_after_100 rfl rfl ?_
        refine ⟨?_, rfl, rfl⟩
        first | rw [kaf_0] | rw [kaf_1] | rw [kaf_2] | rw [kaf_3] | rw [kaf_4] | rw [kaf_5] | rw [kaf_6] | rw [kaf_7] | rw [kaf_8] | rw [kaf_9] | rw [kaf_10] | rw [kaf_11] | rw [kaf_12] | rw [kaf_13] | rw [kaf_14]
        all_goals ((repeat' split) <;> first | rfl | (exfalso; omega))
      · refine e_iload_n rfl dX1_after_89 ?_
        refine e_bipush (by decide) dX1_after_90 ?_
        refine e_icmp_ne (tgt := 99) dX1_after_92 (by decide) (by first | assumption | (unfold inI at *; omega)) (by first | assumption | (unfold inI at *; omega)) (fun c92 => ?_) (fun c92 => ?_)
        · refine e_iconst dX1_after_99 ?_
          refine e_ireturn dX1_after_100 rfl rfl ?_
          refine ⟨?_, rfl, rfl⟩
          first | rw [kaf_0] | rw [kaf_1] | rw [kaf_2] | rw [kaf_3] | rw [kaf_4] | rw [kaf_5] | rw [kaf_6] | rw [kaf_7] | rw [kaf_8] | rw [kaf_9] | rw [kaf_10] | rw [kaf_11] | rw [kaf_12] | rw [kaf_13] | rw [kaf_14]
          all_goals ((repeat' split) <;> first | rfl | (exfalso; omega))
        · refine e_iconst dX1_after_95 ?_
          refine e_goto (tgt := 100) dX1_after_96 (by decide) ?_
          refine e_ireturn dX1_after_100 rfl rfl ?_
          refine ⟨?_, rfl, rfl⟩
          first | rw [kaf_0] | rw [kaf_1] | rw [kaf_2] | rw [kaf_3] | rw [kaf_4] | rw [kaf_5] | rw [kaf_6] | rw [kaf_7] | rw [kaf_8] | rw [kaf_9] | rw [kaf_10] | rw [kaf_11] | rw [kaf_12] | rw [kaf_13] | rw [kaf_14]
          all_goals ((repeat' split) <;> first | rfl | (exfalso; omega))
  · subst c1
    refine e_tabIn (tgt := 101) dX1_after_1 (by unfold inI; omega) (by decide) (by decide) rfl (by decide) ?_
    refine e_iload_n rfl dX1_after_101 ?_
    refine eS1 mtX1_isDigit msX1_isDigit lkX1_28 dX1_after_102 rfl rfl (k_isDigit (by first | assumption | (unfold inI at *; omega))) ?_
    dsimp only [Option.toList, List.cons_append, List.nil_append]
    refine e_ifeqP (tgt := 112) dX1_after_105 (by decide) (fun c105 => ?_) (fun c105 => ?_)
    · refine e_iconst dX1_after_112 ?_
      refine e_ireturn dX1_after_113 rfl rfl ?_
      refine ⟨?_, rfl, rfl⟩
      first | rw [kaf_0] | rw [kaf_1] | rw [kaf_2] | rw [kaf_3] | rw [kaf_4] | rw [kaf_5] | rw [kaf_6] | rw [kaf_7] | rw [kaf_8] | rw [kaf_9] | rw [kaf_10] | rw [kaf_11] | rw [kaf_12] | rw [kaf_13] | rw [kaf_14]
      all_goals ((repeat' split) <;> first | rfl | (exfalso; omega))
    · refine e_iconst dX1_after_108 ?_
      refine e_goto (tgt := 113) dX1_after_109 (by decide) ?_
      refine e_ireturn dX1_after_113 rfl rfl ?_
      refine ⟨?_, rfl, rfl⟩
      first | rw [kaf_0] | rw [kaf_1] | rw [kaf_2] | rw [kaf_3] | rw [kaf_4] | rw [kaf_5] | rw [kaf_6] | rw [kaf_7] | rw [kaf_8] | rw [kaf_9] | rw [kaf_10] | rw [kaf_11] | rw [kaf_12] | rw [kaf_13] | rw [kaf_14]
      all_goals ((repeat' split) <;> first | rfl | (exfalso; omega))
  · subst c1
    refine e_tabIn (tgt := 114) dX1_after_1 (by unfold inI; omega) (by decide) (by decide) rfl (by decide) ?_
    refine e_iload_n rfl dX1_after_114 ?_
    refine eS1 mtX1_isDigit msX1_isDigit lkX1_28 dX1_after_115 rfl rfl (k_isDigit (by first | assumption | (unfold inI at *; omega))) ?_
    dsimp only [Option.toList, List.cons_append, List.nil_append]
    refine e_ifeqP (tgt := 125) dX1_after_118 (by decide) (fun c118 => ?_) (fun c118 => ?_)
    · refine e_iload_n rfl dX1_after_125 ?_
      refine eS1 mtX1_endTest msX1_endTest lkX1_32 dX1_after_126 rfl rfl (k_endTest (by first | assumption | (unfold inI at *; omega))) ?_
      dsimp only [Option.toList, List.cons_append, List.nil_append]
      refine e_ireturn dX1_after_129 rfl rfl ?_
      refine ⟨?_, rfl, rfl⟩
      first | rw [kaf_0] | rw [kaf_1] | rw [kaf_2] | rw [kaf_3] | rw [kaf_4] | rw [kaf_5] | rw [kaf_6] | rw [kaf_7] | rw [kaf_8] | rw [kaf_9] | rw [kaf_10] | rw [kaf_11] | rw [kaf_12] | rw [kaf_13] | rw [kaf_14]
      all_goals ((repeat' split) <;> first | rfl | (exfalso; omega))
    · refine e_iconst dX1_after_121 ?_
      refine e_goto (tgt := 129) dX1_after_122 (by decide) ?_
      refine e_ireturn dX1_after_129 rfl rfl ?_
      refine ⟨?_, rfl, rfl⟩
      first | rw [kaf_0] | rw [kaf_1] | rw [kaf_2] | rw [kaf_3] | rw [kaf_4] | rw [kaf_5] | rw [kaf_6] | rw [kaf_7] | rw [kaf_8] | rw [kaf_9] | rw [kaf_10] | rw [kaf_11] | rw [kaf_12] | rw [kaf_13] | rw [kaf_14]
      all_goals ((repeat' split) <;> first | rfl | (exfalso; omega))
  · subst c1
    refine e_tabIn (tgt := 130) dX1_after_1 (by unfold inI; omega) (by decide) (by decide) rfl (by decide) ?_
    refine e_iload_n rfl dX1_after_130 ?_
    refine eS1 mtX1_endTest msX1_endTest lkX1_32 dX1_after_131 rfl rfl (k_endTest (by first | assumption | (unfold inI at *; omega))) ?_
    dsimp only [Option.toList, List.cons_append, List.nil_append]
    refine e_ireturn dX1_after_134 rfl rfl ?_
    refine ⟨?_, rfl, rfl⟩
    first | rw [kaf_0] | rw [kaf_1] | rw [kaf_2] | rw [kaf_3] | rw [kaf_4] | rw [kaf_5] | rw [kaf_6] | rw [kaf_7] | rw [kaf_8] | rw [kaf_9] | rw [kaf_10] | rw [kaf_11] | rw [kaf_12] | rw [kaf_13] | rw [kaf_14]
    all_goals ((repeat' split) <;> first | rfl | (exfalso; omega))
  · subst c1
    refine e_tabIn (tgt := 135) dX1_after_1 (by unfold inI; omega) (by decide) (by decide) rfl (by decide) ?_
    refine e_iload_n rfl dX1_after_135 ?_
    refine e_bipush (by decide) dX1_after_136 ?_
    refine e_icmp_ne (tgt := 146) dX1_after_138 (by decide) (by first | assumption | (unfold inI at *; omega)) (by first | assumption | (unfold inI at *; omega)) (fun c138 => ?_) (fun c138 => ?_)
    · refine e_iconst dX1_after_146 ?_
      refine e_ireturn dX1_after_147 rfl rfl ?_
      refine ⟨?_, rfl, rfl⟩
      first | rw [kaf_0] | rw [kaf_1] | rw [kaf_2] | rw [kaf_3] | rw [kaf_4] | rw [kaf_5] | rw [kaf_6] | rw [kaf_7] | rw [kaf_8] | rw [kaf_9] | rw [kaf_10] | rw [kaf_11] | rw [kaf_12] | rw [kaf_13] | rw [kaf_14]
      all_goals ((repeat' split) <;> first | rfl | (exfalso; omega))
    · refine e_bipush (by decide) dX1_after_141 ?_
      refine e_goto (tgt := 147) dX1_after_143 (by decide) ?_
      refine e_ireturn dX1_after_147 rfl rfl ?_
      refine ⟨?_, rfl, rfl⟩
      first | rw [kaf_0] | rw [kaf_1] | rw [kaf_2] | rw [kaf_3] | rw [kaf_4] | rw [kaf_5] | rw [kaf_6] | rw [kaf_7] | rw [kaf_8] | rw [kaf_9] | rw [kaf_10] | rw [kaf_11] | rw [kaf_12] | rw [kaf_13] | rw [kaf_14]
      all_goals ((repeat' split) <;> first | rfl | (exfalso; omega))
  · subst c1
    refine e_tabIn (tgt := 148) dX1_after_1 (by unfold inI; omega) (by decide) (by decide) rfl (by decide) ?_
    refine e_iload_n rfl dX1_after_148 ?_
    refine eS1 mtX1_isDigit msX1_isDigit lkX1_28 dX1_after_149 rfl rfl (k_isDigit (by first | assumption | (unfold inI at *; omega))) ?_
    dsimp only [Option.toList, List.cons_append, List.nil_append]
    refine e_ifeqP (tgt := 160) dX1_after_152 (by decide) (fun c152 => ?_) (fun c152 => ?_)
    · refine e_iconst dX1_after_160 ?_
      refine e_ireturn dX1_after_161 rfl rfl ?_
      refine ⟨?_, rfl, rfl⟩
      first | rw [kaf_0] | rw [kaf_1] | rw [kaf_2] | rw [kaf_3] | rw [kaf_4] | rw [kaf_5] | rw [kaf_6] | rw [kaf_7] | rw [kaf_8] | rw [kaf_9] | rw [kaf_10] | rw [kaf_11] | rw [kaf_12] | rw [kaf_13] | rw [kaf_14]
      all_goals ((repeat' split) <;> first | rfl | (exfalso; omega))
    · refine e_bipush (by decide) dX1_after_155 ?_
      refine e_goto (tgt := 161) dX1_after_157 (by decide) ?_
      refine e_ireturn dX1_after_161 rfl rfl ?_
      refine ⟨?_, rfl, rfl⟩
      first | rw [kaf_0] | rw [kaf_1] | rw [kaf_2] | rw [kaf_3] | rw [kaf_4] | rw [kaf_5] | rw [kaf_6] | rw [kaf_7] | rw [kaf_8] | rw [kaf_9] | rw [kaf_10] | rw [kaf_11] | rw [kaf_12] | rw [kaf_13] | rw [kaf_14]
      all_goals ((repeat' split) <;> first | rfl | (exfalso; omega))
  · subst c1
    refine e_tabIn (tgt := 162) dX1_after_1 (by unfold inI; omega) (by decide) (by decide) rfl (by decide) ?_
    refine e_iload_n rfl dX1_after_162 ?_
    refine eS1 mtX1_isDigit msX1_isDigit lkX1_28 dX1_after_163 rfl rfl (k_isDigit (by first | assumption | (unfold inI at *; omega))) ?_
    dsimp only [Option.toList, List.cons_append, List.nil_append]
    refine e_ifeqP (tgt := 174) dX1_after_166 (by decide) (fun c166 => ?_) (fun c166 => ?_)
    · refine e_iload_n rfl dX1_after_174 ?_
      refine e_iconst dX1_after_175 ?_
      refine eS2 mtX1_endPiece msX1_endPiece lkX1_35 dX1_after_176 rfl rfl (k_endPiece (by first | assumption | (unfold inI at *; omega)) (by first | assumption | (unfold inI at *; omega))) ?_
      dsimp only [Option.toList, List.cons_append, List.nil_append]
      refine e_ireturn dX1_after_179 rfl rfl ?_
      refine ⟨?_, rfl, rfl⟩
      first | rw [kaf_0] | rw [kaf_1] | rw [kaf_2] | rw [kaf_3] | rw [kaf_4] | rw [kaf_5] | rw [kaf_6] | rw [kaf_7] | rw [kaf_8] | rw [kaf_9] | rw [kaf_10] | rw [kaf_11] | rw [kaf_12] | rw [kaf_13] | rw [kaf_14]
      all_goals ((repeat' split) <;> first | rfl | (exfalso; omega))
    · refine e_bipush (by decide) dX1_after_169 ?_
      refine e_goto (tgt := 179) dX1_after_171 (by decide) ?_
      refine e_ireturn dX1_after_179 rfl rfl ?_
      refine ⟨?_, rfl, rfl⟩
      first | rw [kaf_0] | rw [kaf_1] | rw [kaf_2] | rw [kaf_3] | rw [kaf_4] | rw [kaf_5] | rw [kaf_6] | rw [kaf_7] | rw [kaf_8] | rw [kaf_9] | rw [kaf_10] | rw [kaf_11] | rw [kaf_12] | rw [kaf_13] | rw [kaf_14]
      all_goals ((repeat' split) <;> first | rfl | (exfalso; omega))
  · subst c1
    refine e_tabIn (tgt := 180) dX1_after_1 (by unfold inI; omega) (by decide) (by decide) rfl (by decide) ?_
    refine e_iload_n rfl dX1_after_180 ?_
    refine e_iconst dX1_after_181 ?_
    refine eS2 mtX1_endPiece msX1_endPiece lkX1_35 dX1_after_182 rfl rfl (k_endPiece (by first | assumption | (unfold inI at *; omega)) (by first | assumption | (unfold inI at *; omega))) ?_
    dsimp only [Option.toList, List.cons_append, List.nil_append]
    refine e_ireturn dX1_after_185 rfl rfl ?_
    refine ⟨?_, rfl, rfl⟩
    first | rw [kaf_0] | rw [kaf_1] | rw [kaf_2] | rw [kaf_3] | rw [kaf_4] | rw [kaf_5] | rw [kaf_6] | rw [kaf_7] | rw [kaf_8] | rw [kaf_9] | rw [kaf_10] | rw [kaf_11] | rw [kaf_12] | rw [kaf_13] | rw [kaf_14]
    all_goals ((repeat' split) <;> first | rfl | (exfalso; omega))
  · refine e_tabOut (tgt := 186) dX1_after_1 (by first | assumption | (unfold inI at *; omega)) c1 (by decide) ?_
    refine e_iload_n rfl dX1_after_186 ?_
    refine e_iload_n rfl dX1_after_187 ?_
    refine eS2 mtX1_afterInGrowth msX1_afterInGrowth lkX1_38 dX1_after_188 rfl rfl (k_afterInGrowth (by omega) (by omega) (by first | assumption | (unfold inI at *; omega))) ?_
    dsimp only [Option.toList, List.cons_append, List.nil_append]
    refine e_ireturn dX1_after_191 rfl rfl ?_
    exact ⟨rfl, rfl, rfl⟩
theorem k_faultOf_mid {F : Nat → Int} {c how : Int} {i : Nat} (hi : (i : Int) < c) (h5 : kfs F (if how = 0 then 0 else 10) i = -1) (h6 : krun F (if how = 0 then 0 else 10) (i + 1) = -1) : some (Value.int (jI (i : Int))) = some (Value.int (jI (kfault F c how))) := by
  have h7 : kfs F (if how = 0 then 0 else 10) (i + 1) = (i : Int) := by
    show (if _ then _ else if _ then _ else _) = _
    rw [if_neg (by omega), if_pos h6]
  have h8 := kfs_keep F (if how = 0 then 0 else 10) (i := i + 1) (by omega) (show i + 1 ≤ c.toNat by omega)
  unfold kfault
  rw [h8, h7, if_pos (by omega)]
theorem k_faultOf_end {F : Nat → Int} {c how : Int} {i : Nat} {v s9 : Int} {h : Nat → Option kC} {n : Nat} {r : Option Value} (hr : r = some (.int (jI v))) (hi : (i : Int) = c) (h4 : s9 = krun F (if how = 0 then 0 else 10) i) (h5 : kfs F (if how = 0 then 0 else 10) i = -1) (hv : v = if s9 = 8 ∨ s9 = 9 ∨ s9 = 14 then -6 else c) : kre (some (.int (jI (kfault F c how)))) h n r h n := by
  refine ⟨?_, rfl, rfl⟩
  rw [hr, hv]
  unfold kfault
  rw [show c.toNat = i by omega, h5, if_neg (show ¬ (0 : Int) ≤ -1 by decide), ← h4]
set_option maxHeartbeats 4000000 in
set_option maxRecDepth 100000 in
theorem k_faultOf_lp {G : kG} {d : Nat} {h : Nat → Option kC} {n : Nat} {t s : Nat} {c : Int} {F : Nat → Int} (r : rTx G h t s c F) (h0 : 0 ≤ c) (h1 : c ≤ 60) (hF : ∀ j, j < 60 → 0 ≤ F j ∧ F j ≤ 126) {how : Int}  : ∀ (f : Nat) (i : Nat) (z s9 : Int), z = (i : Int) → z ≤ c → c - z ≤ f → s9 = krun F (if how = 0 then 0 else 10) i → kfs F (if how = 0 then 0 else 10) i = -1 → s9 ≠ -1 → kE G mX1_faultOf (d + 3) 0 0 13 [some (.ref (gB G + t)), some (.int (jI how)), some (.int (jI s9)), some (.int (jI z))] [] h n (kre (some (.int (jI (kfault F c how)))) h n) := by
  obtain ⟨r1, r2⟩ := id r
  intro f
  induction f with
  | zero =>
    intro i z s9 g1 g2 g3 g4 g5 g6
    have q9 := krun_in F (s0 := if how = 0 then 0 else 10) (by split <;> omega) i
    rw [← g4] at q9
    refine e_iload_n rfl dX1_faultOf_13 ?_
    refine e_aload_n rfl dX1_faultOf_14 ?_
    refine e_getf fdX1_11 dX1_faultOf_15 (by first | assumption | exact kup_s | exact kup_n (by omega) (by first | assumption | exact kup_s | exact kup_n (by omega) (by first | assumption | exact kup_s | exact kup_n (by omega) (by assumption)))) rfl ?_
    refine e_icmp_ge (tgt := 44) dX1_faultOf_18 (by decide) (by first | assumption | (unfold inI at *; omega)) (by first | assumption | (unfold inI at *; omega)) (fun c18 => ?_) (fun c18 => ?_)
    · refine e_iload_n rfl dX1_faultOf_44 ?_
      refine e_bipush (by decide) dX1_faultOf_45 ?_
      refine e_icmp_eq (tgt := 62) dX1_faultOf_47 (by decide) (by first | assumption | (unfold inI at *; omega)) (by first | assumption | (unfold inI at *; omega)) (fun c47 => ?_) (fun c47 => ?_)
      · refine e_bipush (by decide) dX1_faultOf_62 ?_
        refine e_goto (tgt := 71) dX1_faultOf_64 (by decide) ?_
        refine e_ireturn dX1_faultOf_71 rfl rfl ?_
        exact k_faultOf_end rfl (by omega) g4 g5 (by omega)
      · refine e_iload_n rfl dX1_faultOf_50 ?_
        refine e_bipush (by decide) dX1_faultOf_51 ?_
        refine e_icmp_eq (tgt := 62) dX1_faultOf_53 (by decide) (by first | assumption | (unfold inI at *; omega)) (by first | assumption | (unfold inI at *; omega)) (fun c53 => ?_) (fun c53 => ?_)
        · refine e_bipush (by decide) dX1_faultOf_62 ?_
          refine e_goto (tgt := 71) dX1_faultOf_64 (by decide) ?_
          refine e_ireturn dX1_faultOf_71 rfl rfl ?_
          exact k_faultOf_end rfl (by omega) g4 g5 (by omega)
        · refine e_iload_n rfl dX1_faultOf_56 ?_
          refine e_bipush (by decide) dX1_faultOf_57 ?_
          refine e_icmp_ne (tgt := 67) dX1_faultOf_59 (by decide) (by first | assumption | (unfold inI at *; omega)) (by first | assumption | (unfold inI at *; omega)) (fun c59 => ?_) (fun c59 => ?_)
          · refine e_aload_n rfl dX1_faultOf_67 ?_
            refine e_getf fdX1_11 dX1_faultOf_68 (by first | assumption | exact kup_s | exact kup_n (by omega) (by first | assumption | exact kup_s | exact kup_n (by omega) (by first | assumption | exact kup_s | exact kup_n (by omega) (by assumption)))) rfl ?_
            refine e_ireturn dX1_faultOf_71 rfl rfl ?_
            exact k_faultOf_end rfl (by omega) g4 g5 (by omega)
          · refine e_bipush (by decide) dX1_faultOf_62 ?_
            refine e_goto (tgt := 71) dX1_faultOf_64 (by decide) ?_
            refine e_ireturn dX1_faultOf_71 rfl rfl ?_
            exact k_faultOf_end rfl (by omega) g4 g5 (by omega)
    · exact absurd c18 (by omega)
  | succ f ih =>
    intro i z s9 g1 g2 g3 g4 g5 g6
    have q9 := krun_in F (s0 := if how = 0 then 0 else 10) (by split <;> omega) i
    rw [← g4] at q9
    have q8 := hF i
    subst g1
    refine e_iload_n rfl dX1_faultOf_13 ?_
    refine e_aload_n rfl dX1_faultOf_14 ?_
    refine e_getf fdX1_11 dX1_faultOf_15 (by first | assumption | exact kup_s | exact kup_n (by omega) (by first | assumption | exact kup_s | exact kup_n (by omega) (by first | assumption | exact kup_s | exact kup_n (by omega) (by assumption)))) rfl ?_
    refine e_icmp_ge (tgt := 44) dX1_faultOf_18 (by decide) (by first | assumption | (unfold inI at *; omega)) (by first | assumption | (unfold inI at *; omega)) (fun c18 => ?_) (fun c18 => ?_)
    · refine e_iload_n rfl dX1_faultOf_44 ?_
      refine e_bipush (by decide) dX1_faultOf_45 ?_
      refine e_icmp_eq (tgt := 62) dX1_faultOf_47 (by decide) (by first | assumption | (unfold inI at *; omega)) (by first | assumption | (unfold inI at *; omega)) (fun c47 => ?_) (fun c47 => ?_)
      · refine e_bipush (by decide) dX1_faultOf_62 ?_
        refine e_goto (tgt := 71) dX1_faultOf_64 (by decide) ?_
        refine e_ireturn dX1_faultOf_71 rfl rfl ?_
        exact k_faultOf_end rfl (by omega) g4 g5 (by omega)
      · refine e_iload_n rfl dX1_faultOf_50 ?_
        refine e_bipush (by decide) dX1_faultOf_51 ?_
        refine e_icmp_eq (tgt := 62) dX1_faultOf_53 (by decide) (by first | assumption | (unfold inI at *; omega)) (by first | assumption | (unfold inI at *; omega)) (fun c53 => ?_) (fun c53 => ?_)
        · refine e_bipush (by decide) dX1_faultOf_62 ?_
          refine e_goto (tgt := 71) dX1_faultOf_64 (by decide) ?_
          refine e_ireturn dX1_faultOf_71 rfl rfl ?_
          exact k_faultOf_end rfl (by omega) g4 g5 (by omega)
        · refine e_iload_n rfl dX1_faultOf_56 ?_
          refine e_bipush (by decide) dX1_faultOf_57 ?_
          refine e_icmp_ne (tgt := 67) dX1_faultOf_59 (by decide) (by first | assumption | (unfold inI at *; omega)) (by first | assumption | (unfold inI at *; omega)) (fun c59 => ?_) (fun c59 => ?_)
          · refine e_aload_n rfl dX1_faultOf_67 ?_
            refine e_getf fdX1_11 dX1_faultOf_68 (by first | assumption | exact kup_s | exact kup_n (by omega) (by first | assumption | exact kup_s | exact kup_n (by omega) (by first | assumption | exact kup_s | exact kup_n (by omega) (by assumption)))) rfl ?_
            refine e_ireturn dX1_faultOf_71 rfl rfl ?_
            exact k_faultOf_end rfl (by omega) g4 g5 (by omega)
          · refine e_bipush (by decide) dX1_faultOf_62 ?_
            refine e_goto (tgt := 71) dX1_faultOf_64 (by decide) ?_
            refine e_ireturn dX1_faultOf_71 rfl rfl ?_
            exact k_faultOf_end rfl (by omega) g4 g5 (by omega)
    · refine e_iload_n rfl dX1_faultOf_21 ?_
      refine e_aload_n rfl dX1_faultOf_22 ?_
      refine e_iload_n rfl dX1_faultOf_23 ?_
      refine eV1 mtX7_signAt miX7_signAt lkX1_17 dX1_faultOf_24 (by first | assumption | exact kup_s | exact kup_n (by omega) (by first | assumption | exact kup_s | exact kup_n (by omega) (by first | assumption | exact kup_s | exact kup_n (by omega) (by assumption)))) rfl rfl rfl (k_signAt (by assumption) (by omega) (by omega)) ?_
      dsimp only [Option.toList, List.cons_append, List.nil_append]
      simp only [Int.toNat_natCast]
      have q7 := q8 (by omega)
      have q6 := kaf_in s9 (F i)
      have q5 : krun F (if how = 0 then 0 else 10) (i + 1) = kaf s9 (F i) := by show (if _ then _ else _) = _; rw [← g4, if_neg g6]
      refine eS2 mtX1_after msX1_after lkX1_21 dX1_faultOf_27 rfl rfl (k_after (by omega) (by omega) (by first | assumption | (unfold inI at *; omega))) ?_
      dsimp only [Option.toList, List.cons_append, List.nil_append]
      refine e_istore_n dX1_faultOf_30 rfl rfl ?_
      dsimp only [List.set]
      refine e_iload_n rfl dX1_faultOf_31 ?_
      refine e_iconst dX1_faultOf_32 ?_
      refine e_icmp_ne (tgt := 38) dX1_faultOf_33 (by decide) (by first | assumption | (unfold inI at *; omega)) (by first | assumption | (unfold inI at *; omega)) (fun c33 => ?_) (fun c33 => ?_)
      · refine e_iinc dX1_faultOf_38 rfl rfl ?_
        dsimp only [List.set]
        refine e_goto (tgt := 13) dX1_faultOf_41 (by decide) ?_
        exact ih (i + 1) _ _ (by omega) (by omega) (by omega) q5.symm (by show (if _ then _ else _) = _; rw [if_neg (by omega), if_neg (by rw [q5]; exact c33)]) c33
      · refine e_iload_n rfl dX1_faultOf_36 ?_
        refine e_ireturn dX1_faultOf_37 rfl rfl ?_
        exact ⟨k_faultOf_mid (by omega) g5 (by rw [q5]; exact c33), rfl, rfl⟩
set_option maxHeartbeats 4000000 in
set_option maxRecDepth 100000 in
theorem k_faultOf {G : kG} {d : Nat} {h : Nat → Option kC} {n : Nat} {t s : Nat} {c : Int} {F : Nat → Int} (r : rTx G h t s c F) (h0 : 0 ≤ c) (h1 : c ≤ 60) (hF : ∀ j, j < 60 → 0 ≤ F j ∧ F j ≤ 126) {how : Int} (hh0 : 0 ≤ how) (hh1 : how ≤ 1) : kCall G mX1_faultOf (d + 3) 0 0 [.ref (gB G + t), .int (jI how)] h n (kre (some (.int (jI (kfault F c how)))) h n) := by
  show kE G mX1_faultOf (d + 3) 0 0 0 [some (.ref (gB G + t)), some (.int (jI how)), none, none] [] h n _
  obtain ⟨r1, r2⟩ := id r
  refine e_iload_n rfl dX1_faultOf_0 ?_
  refine e_if_ne (tgt := 8) dX1_faultOf_1 (by decide) (by first | assumption | (unfold inI at *; omega)) (fun c1 => ?_) (fun c1 => ?_)
  · refine e_bipush (by decide) dX1_faultOf_8 ?_
    refine e_istore_n dX1_faultOf_10 rfl rfl ?_
    dsimp only [List.set]
    refine e_iconst dX1_faultOf_11 ?_
    refine e_istore_n dX1_faultOf_12 rfl rfl ?_
    dsimp only [List.set]
    exact k_faultOf_lp r h0 h1 hF 100 0 _ _ (by omega) (by omega) (by omega) (by first | (rw [if_pos c1]; rfl) | (rw [if_neg c1]; rfl)) rfl (by omega)
  · refine e_iconst dX1_faultOf_4 ?_
    refine e_goto (tgt := 10) dX1_faultOf_5 (by decide) ?_
    refine e_istore_n dX1_faultOf_10 rfl rfl ?_
    dsimp only [List.set]
    refine e_iconst dX1_faultOf_11 ?_
    refine e_istore_n dX1_faultOf_12 rfl rfl ?_
    dsimp only [List.set]
    exact k_faultOf_lp r h0 h1 hF 100 0 _ _ (by omega) (by omega) (by omega) (by first | (rw [if_pos c1]; rfl) | (rw [if_neg c1]; rfl)) rfl (by omega)
/-- a TEST holds -/
def kho (nm cp nu : Int) : Int := if cp = 60 then (if nm < nu then 1 else 0) else if cp = 62 then (if nu < nm then 1 else 0) else if cp = 61 then (if nm = nu then 1 else 0) else 1
/-- LINE: read from the sign i on, f signs left -/
def klb (F : Nat → Int) (y a : Int) : Nat → Nat → Int → Int → Int → Int → Int
  | 0, _, ft, _, _, nu => if ft = 1 then nu else 0
  | f + 1, i, ft, nm, cp, nu =>
    if 48 ≤ F i ∧ F i ≤ 57 then klb F y a f (i + 1) ft nm cp (10 * nu + F i - 48)
    else if F i = 121 ∨ F i = 97 then klb F y a f (i + 1) ft (if F i = 121 then y else a) cp nu
    else if F i = 38 ∨ F i = 58 then klb F y a f (i + 1) (if ft = 1 ∧ kho nm cp nu = 1 then 1 else 0) nm cp 0
    else if ¬ F i = 59 then klb F y a f (i + 1) ft nm (F i) nu
    else if ft = 1 then nu else klb F y a f (i + 1) 1 nm cp 0
/-- numbers stay small -/
def kno (F : Nat → Int) : Nat → Nat → Int → Prop
  | 0, _, nu => 0 ≤ nu ∧ nu ≤ 999
  | f + 1, i, nu => (0 ≤ nu ∧ nu ≤ 999) ∧ kno F f (i + 1) (if 48 ≤ F i ∧ F i ≤ 57 then 10 * nu + F i - 48 else if F i = 38 ∨ F i = 58 ∨ F i = 59 then 0 else nu)
theorem kno_in {F : Nat → Int} : ∀ {f i : Nat} {nu : Int}, kno F f i nu → 0 ≤ nu ∧ nu ≤ 999
  | 0, _, _, h => h
  | _ + 1, _, _, h => h.1
def kng (F : Nat → Int) : Nat → Nat → Int → Prop
  | 0, _, nu => 0 ≤ nu ∧ nu ≤ 999
  | f + 1, i, nu => (0 ≤ nu ∧ nu ≤ 999) ∧ kng F f (i + 1) (if 48 ≤ F i ∧ F i ≤ 57 then 10 * nu + F i - 48 else 0)
theorem kng_in {F : Nat → Int} : ∀ {f i : Nat} {nu : Int}, kng F f i nu → 0 ≤ nu ∧ nu ≤ 999
  | 0, _, _, h => h
  | _ + 1, _, _, h => h.1
/-- GROWTH at an AGE -/
def kga (F : Nat → Int) (a : Int) : Nat → Nat → Int → Int → Int
  | 0, _, nm, nu => if nm = a then nu else 0
  | f + 1, i, nm, nu =>
    if 48 ≤ F i ∧ F i ≤ 57 then kga F a f (i + 1) nm (10 * nu + F i - 48)
    else if F i = 58 then kga F a f (i + 1) nu 0
    else if nm = a then nu else kga F a f (i + 1) nm 0
set_option maxHeartbeats 4000000 in
set_option maxRecDepth 100000 in
theorem k_holds {G : kG} {d : Nat} {h : Nat → Option kC} {n : Nat} {nm cp nu : Int} (h1 : inI nm) (h2 : inI cp) (h3 : inI nu) : kCall G mX5_holds d 0 0 [.int (jI nm), .int (jI cp), .int (jI nu)] h n (kre (some (.int (jI (kho nm cp nu)))) h n) := by
  show kE G mX5_holds d 0 0 0 [some (.int (jI nm)), some (.int (jI cp)), some (.int (jI nu))] [] h n _
  refine e_iload_n rfl dX5_holds_0 ?_
  rcases (show cp = 60 ∨ cp = 61 ∨ cp = 62 ∨ (cp < 60 ∨ 62 < cp) by omega) with c1 | c1 | c1 | c1
  · subst c1
    refine e_tabIn (tgt := 28) dX5_holds_1 (by unfold inI; omega) (by decide) (by decide) rfl (by decide) ?_
    refine e_iload_n rfl dX5_holds_28 ?_
    refine e_iload_n rfl dX5_holds_29 ?_
    refine e_icmp_ge (tgt := 37) dX5_holds_30 (by decide) (by first | assumption | (unfold inI at *; omega)) (by first | assumption | (unfold inI at *; omega)) (fun c30 => ?_) (fun c30 => ?_)
    · refine e_iconst dX5_holds_37 ?_
      refine e_ireturn dX5_holds_38 rfl (by decide) ?_
      refine ⟨?_, rfl, rfl⟩
      unfold kho
      (repeat' split) <;> first | rfl | (exfalso; omega)
    · refine e_iconst dX5_holds_33 ?_
      refine e_goto (tgt := 38) dX5_holds_34 (by decide) ?_
      refine e_ireturn dX5_holds_38 rfl (by decide) ?_
      refine ⟨?_, rfl, rfl⟩
      unfold kho
      (repeat' split) <;> first | rfl | (exfalso; omega)
  · subst c1
    refine e_tabIn (tgt := 50) dX5_holds_1 (by unfold inI; omega) (by decide) (by decide) rfl (by decide) ?_
    refine e_iload_n rfl dX5_holds_50 ?_
    refine e_iload_n rfl dX5_holds_51 ?_
    refine e_icmp_ne (tgt := 59) dX5_holds_52 (by decide) (by first | assumption | (unfold inI at *; omega)) (by first | assumption | (unfold inI at *; omega)) (fun c52 => ?_) (fun c52 => ?_)
    · refine e_iconst dX5_holds_59 ?_
      refine e_ireturn dX5_holds_60 rfl (by decide) ?_
      refine ⟨?_, rfl, rfl⟩
      unfold kho
      (repeat' split) <;> first | rfl | (exfalso; omega)
    · refine e_iconst dX5_holds_55 ?_
      refine e_goto (tgt := 60) dX5_holds_56 (by decide) ?_
      refine e_ireturn dX5_holds_60 rfl (by decide) ?_
      refine ⟨?_, rfl, rfl⟩
      unfold kho
      (repeat' split) <;> first | rfl | (exfalso; omega)
  · subst c1
    refine e_tabIn (tgt := 39) dX5_holds_1 (by unfold inI; omega) (by decide) (by decide) rfl (by decide) ?_
    refine e_iload_n rfl dX5_holds_39 ?_
    refine e_iload_n rfl dX5_holds_40 ?_
    refine e_icmp_le (tgt := 48) dX5_holds_41 (by decide) (by first | assumption | (unfold inI at *; omega)) (by first | assumption | (unfold inI at *; omega)) (fun c41 => ?_) (fun c41 => ?_)
    · refine e_iconst dX5_holds_48 ?_
      refine e_ireturn dX5_holds_49 rfl (by decide) ?_
      refine ⟨?_, rfl, rfl⟩
      unfold kho
      (repeat' split) <;> first | rfl | (exfalso; omega)
    · refine e_iconst dX5_holds_44 ?_
      refine e_goto (tgt := 49) dX5_holds_45 (by decide) ?_
      refine e_ireturn dX5_holds_49 rfl (by decide) ?_
      refine ⟨?_, rfl, rfl⟩
      unfold kho
      (repeat' split) <;> first | rfl | (exfalso; omega)
  · refine e_tabOut (tgt := 61) dX5_holds_1 (by first | assumption | (unfold inI at *; omega)) c1 (by decide) ?_
    refine e_iconst dX5_holds_61 ?_
    refine e_ireturn dX5_holds_62 rfl (by decide) ?_
    refine ⟨?_, rfl, rfl⟩
    unfold kho
    (repeat' split) <;> first | rfl | (exfalso; omega)
set_option maxHeartbeats 4000000 in
set_option maxRecDepth 100000 in
theorem k_lineBy_lp {G : kG} {d : Nat} {h : Nat → Option kC} {n : Nat} {t s : Nat} {c : Int} {F : Nat → Int} (r : rTx G h t s c F) (h0 : 0 ≤ c) (h1 : c ≤ 60) (hF : ∀ j, j < 60 → 0 ≤ F j ∧ F j ≤ 126) {y a : Int} (hy0 : 0 ≤ y) (hy1 : y ≤ 99) (ha0 : 0 ≤ a) (ha1 : a ≤ 99)  : ∀ (f : Nat) (i : Nat) (z ft nm cp nu : Int) (e9 : Option Value), z = (i : Int) → z + f = c → 0 ≤ ft ∧ ft ≤ 1 → 0 ≤ nm ∧ nm ≤ 99 → 0 ≤ cp ∧ cp ≤ 126 → kno F f i nu → kE G mX5_lineBy (d + 2) 0 0 15 [some (.ref (gB G + t)), some (.int (jI y)), some (.int (jI a)), some (.int (jI ft)), some (.int (jI nm)), some (.int (jI cp)), some (.int (jI nu)), some (.int (jI z)), e9] [] h n (kre (some (.int (jI (klb F y a f i ft nm cp nu)))) h n) := by
  obtain ⟨r1, r2⟩ := id r
  intro f
  induction f with
  | zero =>
    intro i z ft nm cp nu e9 g1 g2 g3 g4 g5 g6
    have q9 := kno_in g6
    refine e_iload rfl dX5_lineBy_15 ?_
    refine e_aload_n rfl dX5_lineBy_17 ?_
    refine e_getf fdX5_7 dX5_lineBy_18 (by first | assumption | exact kup_s | exact kup_n (by omega) (by first | assumption | exact kup_s | exact kup_n (by omega) (by first | assumption | exact kup_s | exact kup_n (by omega) (by assumption)))) rfl ?_
    refine e_icmp_ge (tgt := 161) dX5_lineBy_21 (by decide) (by first | assumption | (unfold inI at *; omega)) (by first | assumption | (unfold inI at *; omega)) (fun c21 => ?_) (fun c21 => ?_)
    · refine e_iload_n rfl dX5_lineBy_161 ?_
      refine e_if_eq (tgt := 170) dX5_lineBy_162 (by decide) (by first | assumption | (unfold inI at *; omega)) (fun c162 => ?_) (fun c162 => ?_)
      · refine e_iconst dX5_lineBy_170 ?_
        refine e_ireturn dX5_lineBy_171 rfl rfl ?_
        refine ⟨?_, rfl, rfl⟩
        unfold klb
        (repeat' split) <;> first | rfl | (exfalso; omega)
      · refine e_iload rfl dX5_lineBy_165 ?_
        refine e_goto (tgt := 171) dX5_lineBy_167 (by decide) ?_
        refine e_ireturn dX5_lineBy_171 rfl rfl ?_
        refine ⟨?_, rfl, rfl⟩
        unfold klb
        (repeat' split) <;> first | rfl | (exfalso; omega)
    · exact absurd c21 (by omega)
  | succ f ih =>
    intro i z ft nm cp nu e9 g1 g2 g3 g4 g5 g6
    have q9 := kno_in g6
    have q8 := hF i
    subst g1
    have q6 := g6.2
    refine e_iload rfl dX5_lineBy_15 ?_
    refine e_aload_n rfl dX5_lineBy_17 ?_
    refine e_getf fdX5_7 dX5_lineBy_18 (by first | assumption | exact kup_s | exact kup_n (by omega) (by first | assumption | exact kup_s | exact kup_n (by omega) (by first | assumption | exact kup_s | exact kup_n (by omega) (by assumption)))) rfl ?_
    refine e_icmp_ge (tgt := 161) dX5_lineBy_21 (by decide) (by first | assumption | (unfold inI at *; omega)) (by first | assumption | (unfold inI at *; omega)) (fun c21 => ?_) (fun c21 => ?_)
    · exact absurd c21 (by omega)
    · refine e_aload_n rfl dX5_lineBy_24 ?_
      refine e_iload rfl dX5_lineBy_25 ?_
      refine eV1 mtX7_signAt miX7_signAt lkX5_13 dX5_lineBy_27 (by first | assumption | exact kup_s | exact kup_n (by omega) (by first | assumption | exact kup_s | exact kup_n (by omega) (by first | assumption | exact kup_s | exact kup_n (by omega) (by assumption)))) rfl rfl rfl (k_signAt (by assumption) (by omega) (by omega)) ?_
      dsimp only [Option.toList, List.cons_append, List.nil_append]
      simp only [Int.toNat_natCast]
      have q7 := q8 (by omega)
      refine e_istore dX5_lineBy_30 rfl rfl ?_
      dsimp only [List.set]
      refine e_iload rfl dX5_lineBy_32 ?_
      refine eS1 mtX1_isDigit msX1_isDigit lkX5_17 dX5_lineBy_34 rfl rfl (k_isDigit (by first | assumption | (unfold inI at *; omega))) ?_
      dsimp only [Option.toList, List.cons_append, List.nil_append]
      refine e_ifeqP (tgt := 56) dX5_lineBy_37 (by decide) (fun c37 => ?_) (fun c37 => ?_)
      · refine e_iload rfl dX5_lineBy_56 ?_
        refine e_bipush (by decide) dX5_lineBy_58 ?_
        refine e_icmp_eq (tgt := 70) dX5_lineBy_60 (by decide) (by first | assumption | (unfold inI at *; omega)) (by first | assumption | (unfold inI at *; omega)) (fun c60 => ?_) (fun c60 => ?_)
        · refine e_iload rfl dX5_lineBy_70 ?_
          refine e_bipush (by decide) dX5_lineBy_72 ?_
          refine e_icmp_ne (tgt := 81) dX5_lineBy_74 (by decide) (by first | assumption | (unfold inI at *; omega)) (by first | assumption | (unfold inI at *; omega)) (fun c74 => ?_) (fun c74 => ?_)
          · refine e_iload_n rfl dX5_lineBy_81 ?_
            refine e_istore dX5_lineBy_82 rfl rfl ?_
            dsimp only [List.set]
            refine e_goto (tgt := 155) dX5_lineBy_84 (by decide) ?_
            refine e_iinc dX5_lineBy_155 rfl rfl ?_
            dsimp only [List.set]
            refine e_goto (tgt := 15) dX5_lineBy_158 (by decide) ?_
            refine kE.mono (ih (i + 1) _ _ _ _ _ _ (by omega) (by omega) (by omega) (by omega) (by omega) (by have q := q6; (repeat' split at q) <;> first | exact q | (exfalso; omega))) (fun r h' n' hq => ?_)
            obtain ⟨w1, w2, w3⟩ := hq
            refine ⟨?_, w2, w3⟩
            rw [w1]
            simp only [klb]
            (repeat' split) <;> first | rfl | (exfalso; omega)
          · refine e_iload_n rfl dX5_lineBy_77 ?_
            refine e_goto (tgt := 82) dX5_lineBy_78 (by decide) ?_
            refine e_istore dX5_lineBy_82 rfl rfl ?_
            dsimp only [List.set]
            refine e_goto (tgt := 155) dX5_lineBy_84 (by decide) ?_
            refine e_iinc dX5_lineBy_155 rfl rfl ?_
            dsimp only [List.set]
            refine e_goto (tgt := 15) dX5_lineBy_158 (by decide) ?_
            refine kE.mono (ih (i + 1) _ _ _ _ _ _ (by omega) (by omega) (by omega) (by omega) (by omega) (by have q := q6; (repeat' split at q) <;> first | exact q | (exfalso; omega))) (fun r h' n' hq => ?_)
            obtain ⟨w1, w2, w3⟩ := hq
            refine ⟨?_, w2, w3⟩
            rw [w1]
            simp only [klb]
            (repeat' split) <;> first | rfl | (exfalso; omega)
        · refine e_iload rfl dX5_lineBy_63 ?_
          refine e_bipush (by decide) dX5_lineBy_65 ?_
          refine e_icmp_ne (tgt := 87) dX5_lineBy_67 (by decide) (by first | assumption | (unfold inI at *; omega)) (by first | assumption | (unfold inI at *; omega)) (fun c67 => ?_) (fun c67 => ?_)
          · refine e_iload rfl dX5_lineBy_87 ?_
            refine e_bipush (by decide) dX5_lineBy_89 ?_
            refine e_icmp_eq (tgt := 101) dX5_lineBy_91 (by decide) (by first | assumption | (unfold inI at *; omega)) (by first | assumption | (unfold inI at *; omega)) (fun c91 => ?_) (fun c91 => ?_)
            · refine e_iload_n rfl dX5_lineBy_101 ?_
              refine e_if_eq (tgt := 121) dX5_lineBy_102 (by decide) (by first | assumption | (unfold inI at *; omega)) (fun c102 => ?_) (fun c102 => ?_)
              · refine e_iconst dX5_lineBy_121 ?_
                refine e_istore_n dX5_lineBy_122 rfl rfl ?_
                dsimp only [List.set]
                refine e_iconst dX5_lineBy_123 ?_
                refine e_istore dX5_lineBy_124 rfl rfl ?_
                dsimp only [List.set]
                refine e_goto (tgt := 155) dX5_lineBy_126 (by decide) ?_
                refine e_iinc dX5_lineBy_155 rfl rfl ?_
                dsimp only [List.set]
                refine e_goto (tgt := 15) dX5_lineBy_158 (by decide) ?_
                refine kE.mono (ih (i + 1) _ _ _ _ _ _ (by omega) (by omega) (by omega) (by omega) (by omega) (by have q := q6; (repeat' split at q) <;> first | exact q | (exfalso; omega))) (fun r h' n' hq => ?_)
                obtain ⟨w1, w2, w3⟩ := hq
                refine ⟨?_, w2, w3⟩
                rw [w1]
                simp only [klb]
                (repeat' split) <;> first | rfl | (exfalso; omega)
              · refine e_iload rfl dX5_lineBy_105 ?_
                refine e_iload rfl dX5_lineBy_107 ?_
                refine e_iload rfl dX5_lineBy_109 ?_
                refine eS3 mtX5_holds msX5_holds lkX5_23 dX5_lineBy_111 rfl rfl (k_holds (by first | assumption | (unfold inI at *; omega)) (by first | assumption | (unfold inI at *; omega)) (by first | assumption | (unfold inI at *; omega))) ?_
                dsimp only [Option.toList, List.cons_append, List.nil_append]
                have qk : kho nm cp nu = 0 ∨ kho nm cp nu = 1 := by unfold kho; (repeat' split) <;> omega
                refine e_if_eq (tgt := 121) dX5_lineBy_114 (by decide) (by unfold inI; omega) (fun c114 => ?_) (fun c114 => ?_)
                · refine e_iconst dX5_lineBy_121 ?_
                  refine e_istore_n dX5_lineBy_122 rfl rfl ?_
                  dsimp only [List.set]
                  refine e_iconst dX5_lineBy_123 ?_
                  refine e_istore dX5_lineBy_124 rfl rfl ?_
                  dsimp only [List.set]
                  refine e_goto (tgt := 155) dX5_lineBy_126 (by decide) ?_
                  refine e_iinc dX5_lineBy_155 rfl rfl ?_
                  dsimp only [List.set]
                  refine e_goto (tgt := 15) dX5_lineBy_158 (by decide) ?_
                  refine kE.mono (ih (i + 1) _ _ _ _ _ _ (by omega) (by omega) (by omega) (by omega) (by omega) (by have q := q6; (repeat' split at q) <;> first | exact q | (exfalso; omega))) (fun r h' n' hq => ?_)
                  obtain ⟨w1, w2, w3⟩ := hq
                  refine ⟨?_, w2, w3⟩
                  rw [w1]
                  simp only [klb]
                  (repeat' split) <;> first | rfl | (exfalso; omega)
                · refine e_iconst dX5_lineBy_117 ?_
                  refine e_goto (tgt := 122) dX5_lineBy_118 (by decide) ?_
                  refine e_istore_n dX5_lineBy_122 rfl rfl ?_
                  dsimp only [List.set]
                  refine e_iconst dX5_lineBy_123 ?_
                  refine e_istore dX5_lineBy_124 rfl rfl ?_
                  dsimp only [List.set]
                  refine e_goto (tgt := 155) dX5_lineBy_126 (by decide) ?_
                  refine e_iinc dX5_lineBy_155 rfl rfl ?_
                  dsimp only [List.set]
                  refine e_goto (tgt := 15) dX5_lineBy_158 (by decide) ?_
                  refine kE.mono (ih (i + 1) _ _ _ _ _ _ (by omega) (by omega) (by omega) (by omega) (by omega) (by have q := q6; (repeat' split at q) <;> first | exact q | (exfalso; omega))) (fun r h' n' hq => ?_)
                  obtain ⟨w1, w2, w3⟩ := hq
                  refine ⟨?_, w2, w3⟩
                  rw [w1]
                  simp only [klb]
                  (repeat' split) <;> first | rfl | (exfalso; omega)
            · refine e_iload rfl dX5_lineBy_94 ?_
              refine e_bipush (by decide) dX5_lineBy_96 ?_
              refine e_icmp_ne (tgt := 129) dX5_lineBy_98 (by decide) (by first | assumption | (unfold inI at *; omega)) (by first | assumption | (unfold inI at *; omega)) (fun c98 => ?_) (fun c98 => ?_)
              · refine e_iload rfl dX5_lineBy_129 ?_
                refine e_bipush (by decide) dX5_lineBy_131 ?_
                refine e_icmp_eq (tgt := 143) dX5_lineBy_133 (by decide) (by first | assumption | (unfold inI at *; omega)) (by first | assumption | (unfold inI at *; omega)) (fun c133 => ?_) (fun c133 => ?_)
                · refine e_iload_n rfl dX5_lineBy_143 ?_
                  refine e_if_eq (tgt := 150) dX5_lineBy_144 (by decide) (by first | assumption | (unfold inI at *; omega)) (fun c144 => ?_) (fun c144 => ?_)
                  · refine e_iconst dX5_lineBy_150 ?_
                    refine e_istore_n dX5_lineBy_151 rfl rfl ?_
                    dsimp only [List.set]
                    refine e_iconst dX5_lineBy_152 ?_
                    refine e_istore dX5_lineBy_153 rfl rfl ?_
                    dsimp only [List.set]
                    refine e_iinc dX5_lineBy_155 rfl rfl ?_
                    dsimp only [List.set]
                    refine e_goto (tgt := 15) dX5_lineBy_158 (by decide) ?_
                    refine kE.mono (ih (i + 1) _ _ _ _ _ _ (by omega) (by omega) (by omega) (by omega) (by omega) (by have q := q6; (repeat' split at q) <;> first | exact q | (exfalso; omega))) (fun r h' n' hq => ?_)
                    obtain ⟨w1, w2, w3⟩ := hq
                    refine ⟨?_, w2, w3⟩
                    rw [w1]
                    simp only [klb]
                    (repeat' split) <;> first | rfl | (exfalso; omega)
                  · refine e_iload rfl dX5_lineBy_147 ?_
                    refine e_ireturn dX5_lineBy_149 rfl rfl ?_
                    refine ⟨?_, rfl, rfl⟩
                    simp only [klb]
                    (repeat' split) <;> first | rfl | (exfalso; omega)
                · refine e_iload rfl dX5_lineBy_136 ?_
                  refine e_istore dX5_lineBy_138 rfl rfl ?_
                  dsimp only [List.set]
                  refine e_goto (tgt := 155) dX5_lineBy_140 (by decide) ?_
                  refine e_iinc dX5_lineBy_155 rfl rfl ?_
                  dsimp only [List.set]
                  refine e_goto (tgt := 15) dX5_lineBy_158 (by decide) ?_
                  refine kE.mono (ih (i + 1) _ _ _ _ _ _ (by omega) (by omega) (by omega) (by omega) (by omega) (by have q := q6; (repeat' split at q) <;> first | exact q | (exfalso; omega))) (fun r h' n' hq => ?_)
                  obtain ⟨w1, w2, w3⟩ := hq
                  refine ⟨?_, w2, w3⟩
                  rw [w1]
                  simp only [klb]
                  (repeat' split) <;> first | rfl | (exfalso; omega)
              · refine e_iload_n rfl dX5_lineBy_101 ?_
                refine e_if_eq (tgt := 121) dX5_lineBy_102 (by decide) (by first | assumption | (unfold inI at *; omega)) (fun c102 => ?_) (fun c102 => ?_)
                · refine e_iconst dX5_lineBy_121 ?_
                  refine e_istore_n dX5_lineBy_122 rfl rfl ?_
                  dsimp only [List.set]
                  refine e_iconst dX5_lineBy_123 ?_
                  refine e_istore dX5_lineBy_124 rfl rfl ?_
                  dsimp only [List.set]
                  refine e_goto (tgt := 155) dX5_lineBy_126 (by decide) ?_
                  refine e_iinc dX5_lineBy_155 rfl rfl ?_
                  dsimp only [List.set]
                  refine e_goto (tgt := 15) dX5_lineBy_158 (by decide) ?_
                  refine kE.mono (ih (i + 1) _ _ _ _ _ _ (by omega) (by omega) (by omega) (by omega) (by omega) (by have q := q6; (repeat' split at q) <;> first | exact q | (exfalso; omega))) (fun r h' n' hq => ?_)
                  obtain ⟨w1, w2, w3⟩ := hq
                  refine ⟨?_, w2, w3⟩
                  rw [w1]
                  simp only [klb]
                  (repeat' split) <;> first | rfl | (exfalso; omega)
                · refine e_iload rfl dX5_lineBy_105 ?_
                  refine e_iload rfl dX5_lineBy_107 ?_
                  refine e_iload rfl dX5_lineBy_109 ?_
                  refine eS3 mtX5_holds msX5_holds lkX5_23 dX5_lineBy_111 rfl rfl (k_holds (by first | assumption | (unfold inI at *; omega)) (by first | assumption | (unfold inI at *; omega)) (by first | assumption | (unfold inI at *; omega))) ?_
                  dsimp only [Option.toList, List.cons_append, List.nil_append]
                  have qk : kho nm cp nu = 0 ∨ kho nm cp nu = 1 := by unfold kho; (repeat' split) <;> omega
                  refine e_if_eq (tgt := 121) dX5_lineBy_114 (by decide) (by unfold inI; omega) (fun c114 => ?_) (fun c114 => ?_)
                  · refine e_iconst dX5_lineBy_121 ?_
                    refine e_istore_n dX5_lineBy_122 rfl rfl ?_
                    dsimp only [List.set]
                    refine e_iconst dX5_lineBy_123 ?_
                    refine e_istore dX5_lineBy_124 rfl rfl ?_
                    dsimp only [List.set]
                    refine e_goto (tgt := 155) dX5_lineBy_126 (by decide) ?_
                    refine e_iinc dX5_lineBy_155 rfl rfl ?_
                    dsimp only [List.set]
                    refine e_goto (tgt := 15) dX5_lineBy_158 (by decide) ?_
                    refine kE.mono (ih (i + 1) _ _ _ _ _ _ (by omega) (by omega) (by omega) (by omega) (by omega) (by have q := q6; (repeat' split at q) <;> first | exact q | (exfalso; omega))) (fun r h' n' hq => ?_)
                    obtain ⟨w1, w2, w3⟩ := hq
                    refine ⟨?_, w2, w3⟩
                    rw [w1]
                    simp only [klb]
                    (repeat' split) <;> first | rfl | (exfalso; omega)
                  · refine e_iconst dX5_lineBy_117 ?_
                    refine e_goto (tgt := 122) dX5_lineBy_118 (by decide) ?_
                    refine e_istore_n dX5_lineBy_122 rfl rfl ?_
                    dsimp only [List.set]
                    refine e_iconst dX5_lineBy_123 ?_
                    refine e_istore dX5_lineBy_124 rfl rfl ?_
                    dsimp only [List.set]
                    refine e_goto (tgt := 155) dX5_lineBy_126 (by decide) ?_
                    refine e_iinc dX5_lineBy_155 rfl rfl ?_
                    dsimp only [List.set]
                    refine e_goto (tgt := 15) dX5_lineBy_158 (by decide) ?_
                    refine kE.mono (ih (i + 1) _ _ _ _ _ _ (by omega) (by omega) (by omega) (by omega) (by omega) (by have q := q6; (repeat' split at q) <;> first | exact q | (exfalso; omega))) (fun r h' n' hq => ?_)
                    obtain ⟨w1, w2, w3⟩ := hq
                    refine ⟨?_, w2, w3⟩
                    rw [w1]
                    simp only [klb]
                    (repeat' split) <;> first | rfl | (exfalso; omega)
          · refine e_iload rfl dX5_lineBy_70 ?_
            refine e_bipush (by decide) dX5_lineBy_72 ?_
            refine e_icmp_ne (tgt := 81) dX5_lineBy_74 (by decide) (by first | assumption | (unfold inI at *; omega)) (by first | assumption | (unfold inI at *; omega)) (fun c74 => ?_) (fun c74 => ?_)
            · refine e_iload_n rfl dX5_lineBy_81 ?_
              refine e_istore dX5_lineBy_82 rfl rfl ?_
              dsimp only [List.set]
              refine e_goto (tgt := 155) dX5_lineBy_84 (by decide) ?_
              refine e_iinc dX5_lineBy_155 rfl rfl ?_
              dsimp only [List.set]
              refine e_goto (tgt := 15) dX5_lineBy_158 (by decide) ?_
              refine kE.mono (ih (i + 1) _ _ _ _ _ _ (by omega) (by omega) (by omega) (by omega) (by omega) (by have q := q6; (repeat' split at q) <;> first | exact q | (exfalso; omega))) (fun r h' n' hq => ?_)
              obtain ⟨w1, w2, w3⟩ := hq
              refine ⟨?_, w2, w3⟩
              rw [w1]
              simp only [klb]
              (repeat' split) <;> first | rfl | (exfalso; omega)
            · refine e_iload_n rfl dX5_lineBy_77 ?_
              refine e_goto (tgt := 82) dX5_lineBy_78 (by decide) ?_
              refine e_istore dX5_lineBy_82 rfl rfl ?_
              dsimp only [List.set]
              refine e_goto (tgt := 155) dX5_lineBy_84 (by decide) ?_
              refine e_iinc dX5_lineBy_155 rfl rfl ?_
              dsimp only [List.set]
              refine e_goto (tgt := 15) dX5_lineBy_158 (by decide) ?_
              refine kE.mono (ih (i + 1) _ _ _ _ _ _ (by omega) (by omega) (by omega) (by omega) (by omega) (by have q := q6; (repeat' split at q) <;> first | exact q | (exfalso; omega))) (fun r h' n' hq => ?_)
              obtain ⟨w1, w2, w3⟩ := hq
              refine ⟨?_, w2, w3⟩
              rw [w1]
              simp only [klb]
              (repeat' split) <;> first | rfl | (exfalso; omega)
      · refine e_bipush (by decide) dX5_lineBy_40 ?_
        refine e_iload rfl dX5_lineBy_42 ?_
        refine e_imul dX5_lineBy_44 ?_
        refine e_iload rfl dX5_lineBy_45 ?_
        refine e_iadd dX5_lineBy_47 ?_
        refine e_bipush (by decide) dX5_lineBy_48 ?_
        refine e_isub dX5_lineBy_50 ?_
        refine e_istore dX5_lineBy_51 rfl rfl ?_
        dsimp only [List.set]
        refine e_goto (tgt := 155) dX5_lineBy_53 (by decide) ?_
        refine e_iinc dX5_lineBy_155 rfl rfl ?_
        dsimp only [List.set]
        refine e_goto (tgt := 15) dX5_lineBy_158 (by decide) ?_
        refine kE.mono (ih (i + 1) _ _ _ _ _ _ (by omega) (by omega) (by omega) (by omega) (by omega) (by have q := q6; (repeat' split at q) <;> first | exact q | (exfalso; omega))) (fun r h' n' hq => ?_)
        obtain ⟨w1, w2, w3⟩ := hq
        refine ⟨?_, w2, w3⟩
        rw [w1]
        simp only [klb]
        (repeat' split) <;> first | rfl | (exfalso; omega)
set_option maxHeartbeats 4000000 in
set_option maxRecDepth 100000 in
theorem k_lineBy {G : kG} {d : Nat} {h : Nat → Option kC} {n : Nat} {t s : Nat} {c : Int} {F : Nat → Int} (r : rTx G h t s c F) (h0 : 0 ≤ c) (h1 : c ≤ 60) (hF : ∀ j, j < 60 → 0 ≤ F j ∧ F j ≤ 126) {y a : Int} (hy0 : 0 ≤ y) (hy1 : y ≤ 99) (ha0 : 0 ≤ a) (ha1 : a ≤ 99) (hno : kno F c.toNat 0 0) : kCall G mX5_lineBy (d + 2) 0 0 [.ref (gB G + t), .int (jI y), .int (jI a)] h n (kre (some (.int (jI (klb F y a c.toNat 0 1 0 42 0)))) h n) := by
  show kE G mX5_lineBy (d + 2) 0 0 0 [some (.ref (gB G + t)), some (.int (jI y)), some (.int (jI a)), none, none, none, none, none, none] [] h n _
  obtain ⟨r1, r2⟩ := id r
  refine e_iconst dX5_lineBy_0 ?_
  refine e_istore_n dX5_lineBy_1 rfl rfl ?_
  dsimp only [List.set]
  refine e_iconst dX5_lineBy_2 ?_
  refine e_istore dX5_lineBy_3 rfl rfl ?_
  dsimp only [List.set]
  refine e_bipush (by decide) dX5_lineBy_5 ?_
  refine e_istore dX5_lineBy_7 rfl rfl ?_
  dsimp only [List.set]
  refine e_iconst dX5_lineBy_9 ?_
  refine e_istore dX5_lineBy_10 rfl rfl ?_
  dsimp only [List.set]
  refine e_iconst dX5_lineBy_12 ?_
  refine e_istore dX5_lineBy_13 rfl rfl ?_
  dsimp only [List.set]
  exact k_lineBy_lp r h0 h1 hF hy0 hy1 ha0 ha1 c.toNat 0 _ _ _ _ _ _ (by omega) (by omega) (by omega) (by omega) (by omega) hno
set_option maxHeartbeats 4000000 in
set_option maxRecDepth 100000 in
theorem k_growthAt_lp {G : kG} {d : Nat} {h : Nat → Option kC} {n : Nat} {t s : Nat} {c : Int} {F : Nat → Int} (r : rTx G h t s c F) (h0 : 0 ≤ c) (h1 : c ≤ 60) (hF : ∀ j, j < 60 → 0 ≤ F j ∧ F j ≤ 126) {a : Int} (ha0 : 0 ≤ a) (ha1 : a ≤ 99)  : ∀ (f : Nat) (i : Nat) (z nm nu : Int) (e9 : Option Value), z = (i : Int) → z + f = c → 0 ≤ nm ∧ nm ≤ 999 → kng F f i nu → kE G mX5_growthAt (d + 2) 0 0 7 [some (.ref (gB G + t)), some (.int (jI a)), some (.int (jI nm)), some (.int (jI nu)), some (.int (jI z)), e9] [] h n (kre (some (.int (jI (kga F a f i nm nu)))) h n) := by
  obtain ⟨r1, r2⟩ := id r
  intro f
  induction f with
  | zero =>
    intro i z nm nu e9 g1 g2 g3 g4
    have q9 := kng_in g4
    refine e_iload rfl dX5_growthAt_7 ?_
    refine e_aload_n rfl dX5_growthAt_9 ?_
    refine e_getf fdX5_7 dX5_growthAt_10 (by first | assumption | exact kup_s | exact kup_n (by omega) (by first | assumption | exact kup_s | exact kup_n (by omega) (by first | assumption | exact kup_s | exact kup_n (by omega) (by assumption)))) rfl ?_
    refine e_icmp_ge (tgt := 75) dX5_growthAt_13 (by decide) (by first | assumption | (unfold inI at *; omega)) (by first | assumption | (unfold inI at *; omega)) (fun c13 => ?_) (fun c13 => ?_)
    · refine e_iload_n rfl dX5_growthAt_75 ?_
      refine e_iload_n rfl dX5_growthAt_76 ?_
      refine e_icmp_ne (tgt := 84) dX5_growthAt_77 (by decide) (by first | assumption | (unfold inI at *; omega)) (by first | assumption | (unfold inI at *; omega)) (fun c77 => ?_) (fun c77 => ?_)
      · refine e_iconst dX5_growthAt_84 ?_
        refine e_ireturn dX5_growthAt_85 rfl rfl ?_
        refine ⟨?_, rfl, rfl⟩
        unfold kga
        (repeat' split) <;> first | rfl | (exfalso; omega)
      · refine e_iload_n rfl dX5_growthAt_80 ?_
        refine e_goto (tgt := 85) dX5_growthAt_81 (by decide) ?_
        refine e_ireturn dX5_growthAt_85 rfl rfl ?_
        refine ⟨?_, rfl, rfl⟩
        unfold kga
        (repeat' split) <;> first | rfl | (exfalso; omega)
    · exact absurd c13 (by omega)
  | succ f ih =>
    intro i z nm nu e9 g1 g2 g3 g4
    have q9 := kng_in g4
    have q8 := hF i
    subst g1
    have q6 := g4.2
    refine e_iload rfl dX5_growthAt_7 ?_
    refine e_aload_n rfl dX5_growthAt_9 ?_
    refine e_getf fdX5_7 dX5_growthAt_10 (by first | assumption | exact kup_s | exact kup_n (by omega) (by first | assumption | exact kup_s | exact kup_n (by omega) (by first | assumption | exact kup_s | exact kup_n (by omega) (by assumption)))) rfl ?_
    refine e_icmp_ge (tgt := 75) dX5_growthAt_13 (by decide) (by first | assumption | (unfold inI at *; omega)) (by first | assumption | (unfold inI at *; omega)) (fun c13 => ?_) (fun c13 => ?_)
    · exact absurd c13 (by omega)
    · refine e_aload_n rfl dX5_growthAt_16 ?_
      refine e_iload rfl dX5_growthAt_17 ?_
      refine eV1 mtX7_signAt miX7_signAt lkX5_13 dX5_growthAt_19 (by first | assumption | exact kup_s | exact kup_n (by omega) (by first | assumption | exact kup_s | exact kup_n (by omega) (by first | assumption | exact kup_s | exact kup_n (by omega) (by assumption)))) rfl rfl rfl (k_signAt (by assumption) (by omega) (by omega)) ?_
      dsimp only [Option.toList, List.cons_append, List.nil_append]
      simp only [Int.toNat_natCast]
      have q7 := q8 (by omega)
      refine e_istore dX5_growthAt_22 rfl rfl ?_
      dsimp only [List.set]
      refine e_iload rfl dX5_growthAt_24 ?_
      refine eS1 mtX1_isDigit msX1_isDigit lkX5_17 dX5_growthAt_26 rfl rfl (k_isDigit (by first | assumption | (unfold inI at *; omega))) ?_
      dsimp only [Option.toList, List.cons_append, List.nil_append]
      refine e_ifeqP (tgt := 46) dX5_growthAt_29 (by decide) (fun c29 => ?_) (fun c29 => ?_)
      · refine e_iload rfl dX5_growthAt_46 ?_
        refine e_bipush (by decide) dX5_growthAt_48 ?_
        refine e_icmp_ne (tgt := 60) dX5_growthAt_50 (by decide) (by first | assumption | (unfold inI at *; omega)) (by first | assumption | (unfold inI at *; omega)) (fun c50 => ?_) (fun c50 => ?_)
        · refine e_iload_n rfl dX5_growthAt_60 ?_
          refine e_iload_n rfl dX5_growthAt_61 ?_
          refine e_icmp_ne (tgt := 67) dX5_growthAt_62 (by decide) (by first | assumption | (unfold inI at *; omega)) (by first | assumption | (unfold inI at *; omega)) (fun c62 => ?_) (fun c62 => ?_)
          · refine e_iconst dX5_growthAt_67 ?_
            refine e_istore_n dX5_growthAt_68 rfl rfl ?_
            dsimp only [List.set]
            refine e_iinc dX5_growthAt_69 rfl rfl ?_
            dsimp only [List.set]
            refine e_goto (tgt := 7) dX5_growthAt_72 (by decide) ?_
            refine kE.mono (ih (i + 1) _ _ _ _ (by omega) (by omega) (by omega) (by have q := q6; (repeat' split at q) <;> first | exact q | (exfalso; omega))) (fun r h' n' hq => ?_)
            obtain ⟨w1, w2, w3⟩ := hq
            refine ⟨?_, w2, w3⟩
            rw [w1]
            simp only [kga]
            (repeat' split) <;> first | rfl | (exfalso; omega)
          · refine e_iload_n rfl dX5_growthAt_65 ?_
            refine e_ireturn dX5_growthAt_66 rfl rfl ?_
            refine ⟨?_, rfl, rfl⟩
            simp only [kga]
            (repeat' split) <;> first | rfl | (exfalso; omega)
        · refine e_iload_n rfl dX5_growthAt_53 ?_
          refine e_istore_n dX5_growthAt_54 rfl rfl ?_
          dsimp only [List.set]
          refine e_iconst dX5_growthAt_55 ?_
          refine e_istore_n dX5_growthAt_56 rfl rfl ?_
          dsimp only [List.set]
          refine e_goto (tgt := 69) dX5_growthAt_57 (by decide) ?_
          refine e_iinc dX5_growthAt_69 rfl rfl ?_
          dsimp only [List.set]
          refine e_goto (tgt := 7) dX5_growthAt_72 (by decide) ?_
          refine kE.mono (ih (i + 1) _ _ _ _ (by omega) (by omega) (by omega) (by have q := q6; (repeat' split at q) <;> first | exact q | (exfalso; omega))) (fun r h' n' hq => ?_)
          obtain ⟨w1, w2, w3⟩ := hq
          refine ⟨?_, w2, w3⟩
          rw [w1]
          simp only [kga]
          (repeat' split) <;> first | rfl | (exfalso; omega)
      · refine e_bipush (by decide) dX5_growthAt_32 ?_
        refine e_iload_n rfl dX5_growthAt_34 ?_
        refine e_imul dX5_growthAt_35 ?_
        refine e_iload rfl dX5_growthAt_36 ?_
        refine e_iadd dX5_growthAt_38 ?_
        refine e_bipush (by decide) dX5_growthAt_39 ?_
        refine e_isub dX5_growthAt_41 ?_
        refine e_istore_n dX5_growthAt_42 rfl rfl ?_
        dsimp only [List.set]
        refine e_goto (tgt := 69) dX5_growthAt_43 (by decide) ?_
        refine e_iinc dX5_growthAt_69 rfl rfl ?_
        dsimp only [List.set]
        refine e_goto (tgt := 7) dX5_growthAt_72 (by decide) ?_
        refine kE.mono (ih (i + 1) _ _ _ _ (by omega) (by omega) (by omega) (by have q := q6; (repeat' split at q) <;> first | exact q | (exfalso; omega))) (fun r h' n' hq => ?_)
        obtain ⟨w1, w2, w3⟩ := hq
        refine ⟨?_, w2, w3⟩
        rw [w1]
        simp only [kga]
        (repeat' split) <;> first | rfl | (exfalso; omega)
set_option maxHeartbeats 4000000 in
set_option maxRecDepth 100000 in
theorem k_growthAt {G : kG} {d : Nat} {h : Nat → Option kC} {n : Nat} {t s : Nat} {c : Int} {F : Nat → Int} (r : rTx G h t s c F) (h0 : 0 ≤ c) (h1 : c ≤ 60) (hF : ∀ j, j < 60 → 0 ≤ F j ∧ F j ≤ 126) {a : Int} (ha0 : 0 ≤ a) (ha1 : a ≤ 99) (hno : kng F c.toNat 0 0) : kCall G mX5_growthAt (d + 2) 0 0 [.ref (gB G + t), .int (jI a)] h n (kre (some (.int (jI (kga F a c.toNat 0 0 0)))) h n) := by
  show kE G mX5_growthAt (d + 2) 0 0 0 [some (.ref (gB G + t)), some (.int (jI a)), none, none, none, none] [] h n _
  obtain ⟨r1, r2⟩ := id r
  refine e_iconst dX5_growthAt_0 ?_
  refine e_istore_n dX5_growthAt_1 rfl rfl ?_
  dsimp only [List.set]
  refine e_iconst dX5_growthAt_2 ?_
  refine e_istore_n dX5_growthAt_3 rfl rfl ?_
  dsimp only [List.set]
  refine e_iconst dX5_growthAt_4 ?_
  refine e_istore dX5_growthAt_5 rfl rfl ?_
  dsimp only [List.set]
  exact k_growthAt_lp r h0 h1 hF ha0 ha1 c.toNat 0 _ _ _ _ (by omega) (by omega) (by omega) hno
