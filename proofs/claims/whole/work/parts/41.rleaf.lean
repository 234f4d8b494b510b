/-! THE REFERENCE: leaves -/
set_option maxHeartbeats 4000000 in
set_option maxRecDepth 100000 in
theorem j_in {G : kG} {d : Nat} {h : Nat → Option kC} {n : Nat} {v a b : Int} (hv : inL v) (ha : inL a) (hb : inL b) : kCall G mX10_in d 0 0 [.long (jL v), .long (jL a), .long (jL b)] h n (kre (some (.int (jI (if a ≤ v ∧ v ≤ b then 1 else 0)))) h n) := by
  show kE G mX10_in d 0 0 0 [some (.long (jL v)), none, some (.long (jL a)), none, some (.long (jL b)), none] [] h n _
  refine e_lload_n rfl dX10_in_0 ?_
  refine e_lload_n rfl dX10_in_1 ?_
  refine e_lcmp_lt (tgt := 17) dX10_in_2 dX10_in_3 (by decide) (by first | assumption | (unfold inL at *; omega)) (by first | assumption | (unfold inL at *; omega)) (fun c2 => ?_) (fun c2 => ?_)
  · refine e_iconst dX10_in_17 ?_
    refine e_ireturn dX10_in_18 rfl (by decide) ?_
    exact ⟨by (repeat' split) <;> first | rfl | (exfalso; omega), rfl, rfl⟩
  · refine e_lload_n rfl dX10_in_6 ?_
    refine e_lload rfl dX10_in_7 ?_
    refine e_lcmp_gt (tgt := 17) dX10_in_9 dX10_in_10 (by decide) (by first | assumption | (unfold inL at *; omega)) (by first | assumption | (unfold inL at *; omega)) (fun c9 => ?_) (fun c9 => ?_)
    · refine e_iconst dX10_in_17 ?_
      refine e_ireturn dX10_in_18 rfl (by decide) ?_
      exact ⟨by (repeat' split) <;> first | rfl | (exfalso; omega), rfl, rfl⟩
    · refine e_iconst dX10_in_13 ?_
      refine e_goto (tgt := 18) dX10_in_14 (by decide) ?_
      refine e_ireturn dX10_in_18 rfl (by decide) ?_
      exact ⟨by (repeat' split) <;> first | rfl | (exfalso; omega), rfl, rfl⟩
set_option maxHeartbeats 4000000 in
set_option maxRecDepth 100000 in
theorem j_isBook {G : kG} {d : Nat} {h : Nat → Option kC} {n : Nat} {v : Int} (hv : inI v) : kCall G mX10_isBook (d + 1) 0 0 [.int (jI v)] h n (kre (some (.int (jI (if 0 ≤ v ∧ v ≤ 5 then 1 else 0)))) h n) := by
  show kE G mX10_isBook (d + 1) 0 0 0 [some (.int (jI v))] [] h n _
  refine e_iload_n rfl dX10_isBook_0 ?_
  refine e_i2l (by first | assumption | (unfold inI at *; omega)) dX10_isBook_1 ?_
  refine e_lconst (z := 0) (by decide) dX10_isBook_2 ?_
  refine e_ldc2 (z := 5) kcX10_62 (by decide) dX10_isBook_3 ?_
  refine eS3 mtX10_in msX10_in lkX10_64 dX10_isBook_6 rfl rfl (j_in (by first | assumption | exact inL_of (by assumption) | (unfold inL; omega) | (unfold inI at *; unfold inL; omega)) (by first | assumption | exact inL_of (by assumption) | (unfold inL; omega) | (unfold inI at *; unfold inL; omega)) (by first | assumption | exact inL_of (by assumption) | (unfold inL; omega) | (unfold inI at *; unfold inL; omega))) ?_
  dsimp only [Option.toList, List.cons_append, List.nil_append]
  refine e_ireturn dX10_isBook_9 rfl kbn ?_
  exact ⟨rfl, rfl, rfl⟩
set_option maxHeartbeats 4000000 in
set_option maxRecDepth 100000 in
theorem j_isHeight {G : kG} {d : Nat} {h : Nat → Option kC} {n : Nat} {v : Int} (hv : inI v) : kCall G mX10_isHeight (d + 1) 0 0 [.int (jI v)] h n (kre (some (.int (jI (if 0 ≤ v ∧ v ≤ 63 then 1 else 0)))) h n) := by
  show kE G mX10_isHeight (d + 1) 0 0 0 [some (.int (jI v))] [] h n _
  refine e_iload_n rfl dX10_isHeight_0 ?_
  refine e_i2l (by first | assumption | (unfold inI at *; omega)) dX10_isHeight_1 ?_
  refine e_lconst (z := 0) (by decide) dX10_isHeight_2 ?_
  refine e_ldc2 (z := 63) kcX10_68 (by decide) dX10_isHeight_3 ?_
  refine eS3 mtX10_in msX10_in lkX10_64 dX10_isHeight_6 rfl rfl (j_in (by first | assumption | exact inL_of (by assumption) | (unfold inL; omega) | (unfold inI at *; unfold inL; omega)) (by first | assumption | exact inL_of (by assumption) | (unfold inL; omega) | (unfold inI at *; unfold inL; omega)) (by first | assumption | exact inL_of (by assumption) | (unfold inL; omega) | (unfold inI at *; unfold inL; omega))) ?_
  dsimp only [Option.toList, List.cons_append, List.nil_append]
  refine e_ireturn dX10_isHeight_9 rfl kbn ?_
  exact ⟨rfl, rfl, rfl⟩
set_option maxHeartbeats 4000000 in
set_option maxRecDepth 100000 in
theorem j_isWidth {G : kG} {d : Nat} {h : Nat → Option kC} {n : Nat} {v : Int} (hv : inI v) : kCall G mX10_isWidth (d + 1) 0 0 [.int (jI v)] h n (kre (some (.int (jI (if 1 ≤ v ∧ v ≤ 8 then 1 else 0)))) h n) := by
  show kE G mX10_isWidth (d + 1) 0 0 0 [some (.int (jI v))] [] h n _
  refine e_iload_n rfl dX10_isWidth_0 ?_
  refine e_i2l (by first | assumption | (unfold inI at *; omega)) dX10_isWidth_1 ?_
  refine e_lconst (z := 1) (by decide) dX10_isWidth_2 ?_
  refine e_ldc2 (z := 8) kcX10_70 (by decide) dX10_isWidth_3 ?_
  refine eS3 mtX10_in msX10_in lkX10_64 dX10_isWidth_6 rfl rfl (j_in (by first | assumption | exact inL_of (by assumption) | (unfold inL; omega) | (unfold inI at *; unfold inL; omega)) (by first | assumption | exact inL_of (by assumption) | (unfold inL; omega) | (unfold inI at *; unfold inL; omega)) (by first | assumption | exact inL_of (by assumption) | (unfold inL; omega) | (unfold inI at *; unfold inL; omega))) ?_
  dsimp only [Option.toList, List.cons_append, List.nil_append]
  refine e_ireturn dX10_isWidth_9 rfl kbn ?_
  exact ⟨rfl, rfl, rfl⟩
set_option maxHeartbeats 4000000 in
set_option maxRecDepth 100000 in
theorem j_isEnd {G : kG} {d : Nat} {h : Nat → Option kC} {n : Nat} {v : Int} (hv : inI v) : kCall G mX10_isEnd (d + 1) 0 0 [.int (jI v)] h n (kre (some (.int (jI (if 0 ≤ v ∧ v ≤ 1 then 1 else 0)))) h n) := by
  show kE G mX10_isEnd (d + 1) 0 0 0 [some (.int (jI v))] [] h n _
  refine e_iload_n rfl dX10_isEnd_0 ?_
  refine e_i2l (by first | assumption | (unfold inI at *; omega)) dX10_isEnd_1 ?_
  refine e_lconst (z := 0) (by decide) dX10_isEnd_2 ?_
  refine e_lconst (z := 1) (by decide) dX10_isEnd_3 ?_
  refine eS3 mtX10_in msX10_in lkX10_64 dX10_isEnd_4 rfl rfl (j_in (by first | assumption | exact inL_of (by assumption) | (unfold inL; omega) | (unfold inI at *; unfold inL; omega)) (by first | assumption | exact inL_of (by assumption) | (unfold inL; omega) | (unfold inI at *; unfold inL; omega)) (by first | assumption | exact inL_of (by assumption) | (unfold inL; omega) | (unfold inI at *; unfold inL; omega))) ?_
  dsimp only [Option.toList, List.cons_append, List.nil_append]
  refine e_ireturn dX10_isEnd_7 rfl kbn ?_
  exact ⟨rfl, rfl, rfl⟩
set_option maxHeartbeats 4000000 in
set_option maxRecDepth 100000 in
theorem j_isShare {G : kG} {d : Nat} {h : Nat → Option kC} {n : Nat} {v : Int} (hv : inI v) : kCall G mX10_isShare (d + 1) 0 0 [.int (jI v)] h n (kre (some (.int (jI (if 0 ≤ v ∧ v ≤ 100 then 1 else 0)))) h n) := by
  show kE G mX10_isShare (d + 1) 0 0 0 [some (.int (jI v))] [] h n _
  refine e_iload_n rfl dX10_isShare_0 ?_
  refine e_i2l (by first | assumption | (unfold inI at *; omega)) dX10_isShare_1 ?_
  refine e_lconst (z := 0) (by decide) dX10_isShare_2 ?_
  refine e_ldc2 (z := 100) kcX10_214 (by decide) dX10_isShare_3 ?_
  refine eS3 mtX10_in msX10_in lkX10_64 dX10_isShare_6 rfl rfl (j_in (by first | assumption | exact inL_of (by assumption) | (unfold inL; omega) | (unfold inI at *; unfold inL; omega)) (by first | assumption | exact inL_of (by assumption) | (unfold inL; omega) | (unfold inI at *; unfold inL; omega)) (by first | assumption | exact inL_of (by assumption) | (unfold inL; omega) | (unfold inI at *; unfold inL; omega))) ?_
  dsimp only [Option.toList, List.cons_append, List.nil_append]
  refine e_ireturn dX10_isShare_9 rfl kbn ?_
  exact ⟨rfl, rfl, rfl⟩
set_option maxHeartbeats 4000000 in
set_option maxRecDepth 100000 in
theorem j_isDigit {G : kG} {d : Nat} {h : Nat → Option kC} {n : Nat} {v : Int} (hv : inI v) : kCall G mX10_isDigit (d + 1) 0 0 [.int (jI v)] h n (kre (some (.int (jI (if 48 ≤ v ∧ v ≤ 57 then 1 else 0)))) h n) := by
  show kE G mX10_isDigit (d + 1) 0 0 0 [some (.int (jI v))] [] h n _
  refine e_iload_n rfl dX10_isDigit_0 ?_
  refine e_i2l (by first | assumption | (unfold inI at *; omega)) dX10_isDigit_1 ?_
  refine e_ldc2 (z := 48) kcX10_111 (by decide) dX10_isDigit_2 ?_
  refine e_ldc2 (z := 57) kcX10_113 (by decide) dX10_isDigit_5 ?_
  refine eS3 mtX10_in msX10_in lkX10_64 dX10_isDigit_8 rfl rfl (j_in (by first | assumption | exact inL_of (by assumption) | (unfold inL; omega) | (unfold inI at *; unfold inL; omega)) (by first | assumption | exact inL_of (by assumption) | (unfold inL; omega) | (unfold inI at *; unfold inL; omega)) (by first | assumption | exact inL_of (by assumption) | (unfold inL; omega) | (unfold inI at *; unfold inL; omega))) ?_
  dsimp only [Option.toList, List.cons_append, List.nil_append]
  refine e_ireturn dX10_isDigit_11 rfl kbn ?_
  exact ⟨rfl, rfl, rfl⟩
set_option maxHeartbeats 4000000 in
set_option maxRecDepth 100000 in
theorem j_apart {G : kG} {d : Nat} {h : Nat → Option kC} {n : Nat} {a b : Int} (ha : inI a) (hb : inI b) : kCall G mX10_apart d 0 0 [.int (jI a), .int (jI b)] h n (kre (some (.int (jI (kab (a - b))))) h n) := by
  show kE G mX10_apart d 0 0 0 [some (.int (jI a)), some (.int (jI b))] [] h n _
  refine e_iload_n rfl dX10_apart_0 ?_
  refine e_iload_n rfl dX10_apart_1 ?_
  refine e_icmp_ge (tgt := 11) dX10_apart_2 (by decide) (by first | assumption | (unfold inI at *; omega)) (by first | assumption | (unfold inI at *; omega)) (fun c2 => ?_) (fun c2 => ?_)
  · refine e_iload_n rfl dX10_apart_11 ?_
    refine e_iload_n rfl dX10_apart_12 ?_
    refine e_isub dX10_apart_13 ?_
    refine e_ireturn dX10_apart_14 rfl rfl ?_
    exact ⟨by unfold kab; first | (rw [if_pos (by omega)]; congr 3; omega) | (rw [if_neg (by omega)]), rfl, rfl⟩
  · refine e_iload_n rfl dX10_apart_5 ?_
    refine e_iload_n rfl dX10_apart_6 ?_
    refine e_isub dX10_apart_7 ?_
    refine e_goto (tgt := 14) dX10_apart_8 (by decide) ?_
    refine e_ireturn dX10_apart_14 rfl rfl ?_
    exact ⟨by unfold kab; first | (rw [if_pos (by omega)]; congr 3; omega) | (rw [if_neg (by omega)]), rfl, rfl⟩
set_option maxHeartbeats 4000000 in
set_option maxRecDepth 100000 in
theorem j_at {G : kG} {d : Nat} {h : Nat → Option kC} {n : Nat} {a b : Int} : kCall G mX10_at d 0 0 [.int (jI a), .int (jI b)] h n (kre (some (.int (jI (64 * a + b)))) h n) := by
  show kE G mX10_at d 0 0 0 [some (.int (jI a)), some (.int (jI b))] [] h n _
  refine e_bipush (by decide) dX10_at_0 ?_
  refine e_iload_n rfl dX10_at_2 ?_
  refine e_imul dX10_at_3 ?_
  refine e_iload_n rfl dX10_at_4 ?_
  refine e_iadd dX10_at_5 ?_
  refine e_ireturn dX10_at_6 rfl rfl ?_
  exact ⟨rfl, rfl, rfl⟩
set_option maxHeartbeats 4000000 in
set_option maxRecDepth 100000 in
theorem j_common_lp {G : kG} {d : Nat} {h : Nat → Option kC} {n : Nat} {a b : Int}  : ∀ (f : Nat) (x y : Int) (e8 e9 : Option Value), 0 ≤ x ∧ x < 4611686018427387904 → 0 ≤ y ∧ y < 4611686018427387904 → kgc x y = kgc (kab a) b → y ≤ f → kE G mX10_common d 0 0 17 [some (.long (jL a)), none, some (.long (jL b)), none, some (.long (jL x)), none, some (.long (jL y)), none, e8, e9] [] h n (kre (some (.long (jL (kgc (kab a) b)))) h n) := by
  intro f
  induction f with
  | zero =>
    intro x y e8 e9 g1 g2 g3 g4
    refine e_lload rfl dX10_common_17 ?_
    refine e_lconst (z := 0) (by decide) dX10_common_19 ?_
    refine e_lcmp_eq (tgt := 42) dX10_common_20 dX10_common_21 (by decide) (by first | assumption | (unfold inL at *; omega)) (by first | assumption | (unfold inL at *; omega)) (fun c20 => ?_) (fun c20 => ?_)
    · refine e_lload rfl dX10_common_42 ?_
      refine e_lreturn dX10_common_44 rfl ?_
      exact ⟨by rw [← g3, show y = 0 by omega, kgc_0 (by omega)], rfl, rfl⟩
    · exact absurd c20 (by omega)
  | succ f ih =>
    intro x y e8 e9 g1 g2 g3 g4
    refine e_lload rfl dX10_common_17 ?_
    refine e_lconst (z := 0) (by decide) dX10_common_19 ?_
    refine e_lcmp_eq (tgt := 42) dX10_common_20 dX10_common_21 (by decide) (by first | assumption | (unfold inL at *; omega)) (by first | assumption | (unfold inL at *; omega)) (fun c20 => ?_) (fun c20 => ?_)
    · refine e_lload rfl dX10_common_42 ?_
      refine e_lreturn dX10_common_44 rfl ?_
      exact ⟨by rw [← g3, show y = 0 by omega, kgc_0 (by omega)], rfl, rfl⟩
    · refine e_lload rfl dX10_common_24 ?_
      refine e_lload rfl dX10_common_26 ?_
      refine e_lremN (by first | assumption | (unfold inL at *; omega)) (by first | assumption | (unfold inL at *; omega)) (by omega) (by omega) dX10_common_28 ?_
      have q8 := Int.emod_nonneg x (show y ≠ 0 by omega)
      have q7 := Int.emod_lt_of_pos x (show 0 < y by omega)
      refine e_lstore dX10_common_29 rfl rfl ?_
      dsimp only [List.set]
      refine e_lload rfl dX10_common_31 ?_
      refine e_lstore dX10_common_33 rfl rfl ?_
      dsimp only [List.set]
      refine e_lload rfl dX10_common_35 ?_
      refine e_lstore dX10_common_37 rfl rfl ?_
      dsimp only [List.set]
      refine e_goto (tgt := 17) dX10_common_39 (by decide) ?_
      exact ih _ _ _ _ (by omega) (by omega) (by rw [← kgc_step (by omega) (by omega)]; exact g3) (by omega)
set_option maxHeartbeats 4000000 in
set_option maxRecDepth 100000 in
theorem j_common {G : kG} {d : Nat} {h : Nat → Option kC} {n : Nat} {a b : Int} (a0 : -4611686018427387904 < a ∧ a < 4611686018427387904) (b0 : 0 ≤ b ∧ b < 4611686018427387904) : kCall G mX10_common d 0 0 [.long (jL a), .long (jL b)] h n (kre (some (.long (jL (kgc (kab a) b)))) h n) := by
  show kE G mX10_common d 0 0 0 [some (.long (jL a)), none, some (.long (jL b)), none, none, none, none, none, none, none] [] h n _
  refine e_lload_n rfl dX10_common_0 ?_
  refine e_lconst (z := 0) (by decide) dX10_common_1 ?_
  refine e_lcmp_ge (tgt := 11) dX10_common_2 dX10_common_3 (by decide) (by first | assumption | (unfold inL at *; omega)) (by first | assumption | (unfold inL at *; omega)) (fun c2 => ?_) (fun c2 => ?_)
  · refine e_lload_n rfl dX10_common_11 ?_
    refine e_lstore dX10_common_12 rfl rfl ?_
    dsimp only [List.set]
    refine e_lload_n rfl dX10_common_14 ?_
    refine e_lstore dX10_common_15 rfl rfl ?_
    dsimp only [List.set]
    exact j_common_lp b.toNat _ _ _ _ (by omega) (by omega) (by unfold kab; first | rw [if_pos (by omega)] | rw [if_neg (by omega)]) (by omega)
  · refine e_lload_n rfl dX10_common_6 ?_
    refine e_lneg dX10_common_7 ?_
    refine e_goto (tgt := 12) dX10_common_8 (by decide) ?_
    refine e_lstore dX10_common_12 rfl rfl ?_
    dsimp only [List.set]
    refine e_lload_n rfl dX10_common_14 ?_
    refine e_lstore dX10_common_15 rfl rfl ?_
    dsimp only [List.set]
    exact j_common_lp b.toNat _ _ _ _ (by omega) (by omega) (by unfold kab; first | rw [if_pos (by omega)] | rw [if_neg (by omega)]) (by omega)
theorem ktl_m {u l p : Int} (l0 : 0 ≤ l) (p0 : 0 ≤ p ∧ p ≤ 1) : (if l = 0 then p else (if p = 0 then u else l).tdiv (kgc (kab u) l)) = ktl u l p := by
  unfold ktl
  by_cases h1 : l = 0
  · rw [if_pos h1, if_pos (by omega)]
    split <;> omega
  · rw [if_neg h1]
    by_cases h2 : u = 0
    · rw [if_pos (Or.inl h2), h2]
      have e9 : kgc (kab 0) l = l := by
        unfold kgc kab
        rw [if_neg (by decide), show (0 : Int).toNat = 0 from rfl, Nat.gcd_zero_left]
        omega
      rw [e9]
      split
      · exact Int.zero_tdiv l
      · exact Int.tdiv_self h1
    · rw [if_neg (show ¬ (u = 0 ∨ l ≤ 0) by omega)]
set_option maxHeartbeats 4000000 in
set_option maxRecDepth 100000 in
theorem j_lowest {G : kG} {d : Nat} {h : Nat → Option kC} {n : Nat} {u l p : Int} (u0 : -4611686018427387904 < u) (u1 : u < 4611686018427387904) (l0 : 0 ≤ l) (l1 : l < 4611686018427387904) (p0 : 0 ≤ p) (p1 : p ≤ 1) : kCall G mX10_lowest (d + 1) 0 0 [.long (jL u), .long (jL l), .int (jI p)] h n (kre (some (.long (jL (ktl u l p)))) h n) := by
  show kE G mX10_lowest (d + 1) 0 0 0 [some (.long (jL u)), none, some (.long (jL l)), none, some (.int (jI p)), none, none] [] h n _
  refine e_lload_n rfl dX10_lowest_0 ?_
  refine e_lconst (z := 0) (by decide) dX10_lowest_1 ?_
  refine e_lcmp_ne (tgt := 10) dX10_lowest_2 dX10_lowest_3 (by decide) (by first | assumption | (unfold inL at *; omega)) (by first | assumption | (unfold inL at *; omega)) (fun c2 => ?_) (fun c2 => ?_)
  · refine e_lload_n rfl dX10_lowest_10 ?_
    refine e_lload_n rfl dX10_lowest_11 ?_
    refine eS2 mtX10_common msX10_common lkX10_72 dX10_lowest_12 rfl rfl (j_common (by omega) (by omega)) ?_
    dsimp only [Option.toList, List.cons_append, List.nil_append]
    have z1 := kgc_pos (a := kab u) (show 0 < l by omega)
    have z2 := kgc_le (a := kab u) (show 0 < l by omega)
    refine e_lstore dX10_lowest_15 rfl rfl ?_
    dsimp only [List.set]
    refine e_iload rfl dX10_lowest_17 ?_
    refine e_if_ne (tgt := 29) dX10_lowest_19 (by decide) (by first | assumption | (unfold inI at *; omega)) (fun c19 => ?_) (fun c19 => ?_)
    · refine e_lload_n rfl dX10_lowest_29 ?_
      refine e_lload rfl dX10_lowest_30 ?_
      refine e_ldiv (by first | assumption | (unfold inL at *; omega)) (by first | assumption | (unfold inL at *; omega)) (by omega) dX10_lowest_32 ?_
      refine e_lreturn dX10_lowest_33 rfl ?_
      refine ⟨?_, rfl, rfl⟩
      rw [← ktl_m l0 ⟨p0, p1⟩]
      first | rw [if_pos (by omega)] | (rw [if_neg (by omega)]; first | rw [if_pos (by omega)] | rw [if_neg (by omega)])
    · refine e_lload_n rfl dX10_lowest_22 ?_
      refine e_lload rfl dX10_lowest_23 ?_
      refine e_ldiv (by first | assumption | (unfold inL at *; omega)) (by first | assumption | (unfold inL at *; omega)) (by omega) dX10_lowest_25 ?_
      refine e_goto (tgt := 33) dX10_lowest_26 (by decide) ?_
      refine e_lreturn dX10_lowest_33 rfl ?_
      refine ⟨?_, rfl, rfl⟩
      rw [← ktl_m l0 ⟨p0, p1⟩]
      first | rw [if_pos (by omega)] | (rw [if_neg (by omega)]; first | rw [if_pos (by omega)] | rw [if_neg (by omega)])
  · refine e_iload rfl dX10_lowest_6 ?_
    refine e_i2l (by first | assumption | (unfold inI at *; omega)) dX10_lowest_8 ?_
    refine e_lreturn dX10_lowest_9 rfl ?_
    refine ⟨?_, rfl, rfl⟩
    rw [← ktl_m l0 ⟨p0, p1⟩]
    first | rw [if_pos (by omega)] | (rw [if_neg (by omega)]; first | rw [if_pos (by omega)] | rw [if_neg (by omega)])
def kmr (s : Int) : Int := if s = 1 then 9 else if s = 6 then 1 else if s = 7 then 6 else if s = 8 then 7 else if s = 9 then 8 else s
def kmg9 (s : Int) : Int := if s = -1 then -1 else s - 10
set_option maxHeartbeats 4000000 in
set_option maxRecDepth 100000 in
theorem j_rule0 {G : kG} {d : Nat} {h : Nat → Option kC} {n : Nat} {x : Int} (hx : inI x) : kCall G mX10_ruleStep (d + 2) 0 0 [.int (jI 0), .int (jI x)] h n (kre (some (.int (jI (kmr (kaf 0 x))))) h n) := by
  show kE G mX10_ruleStep (d + 2) 0 0 0 [some (.int (jI 0)), some (.int (jI x))] [] h n _
  refine e_iload_n rfl dX10_ruleStep_0 ?_
  refine e_tabIn (tgt := 56) dX10_ruleStep_1 (by unfold inI; omega) (by decide) (by decide) rfl (by decide) ?_
  refine e_iload_n rfl dX10_ruleStep_56 ?_
  refine e_bipush (by decide) dX10_ruleStep_57 ?_
  refine e_icmp_ne (tgt := 66) dX10_ruleStep_59 (by decide) (by first | assumption | (unfold inI at *; omega)) (by first | assumption | (unfold inI at *; omega)) (fun c59 => ?_) (fun c59 => ?_)
  · refine e_iload_n rfl dX10_ruleStep_66 ?_
    refine e_bipush (by decide) dX10_ruleStep_67 ?_
    refine e_icmp_eq (tgt := 78) dX10_ruleStep_69 (by decide) (by first | assumption | (unfold inI at *; omega)) (by first | assumption | (unfold inI at *; omega)) (fun c69 => ?_) (fun c69 => ?_)
    · refine e_iconst dX10_ruleStep_78 ?_
      refine e_goto (tgt := 83) dX10_ruleStep_79 (by decide) ?_
      refine e_ireturn dX10_ruleStep_83 rfl rfl ?_
      refine ⟨?_, rfl, rfl⟩
      rw [kaf_0]
      try unfold kbeg
      try unfold kend
      first | (rw [if_pos (by omega)]; rfl) | (rw [if_neg (by omega), if_pos (by omega)]; rfl) | (rw [if_neg (by omega), if_neg (by omega), if_pos (by omega)]; rfl) | (rw [if_neg (by omega), if_neg (by omega), if_neg (by omega)]; rfl) | (rw [if_neg (by omega), if_neg (by omega)]; rfl) | (rw [if_neg (by omega)]; rfl)
    · refine e_iload_n rfl dX10_ruleStep_72 ?_
      refine e_bipush (by decide) dX10_ruleStep_73 ?_
      refine e_icmp_ne (tgt := 82) dX10_ruleStep_75 (by decide) (by first | assumption | (unfold inI at *; omega)) (by first | assumption | (unfold inI at *; omega)) (fun c75 => ?_) (fun c75 => ?_)
      · refine e_iconst dX10_ruleStep_82 ?_
        refine e_ireturn dX10_ruleStep_83 rfl rfl ?_
        refine ⟨?_, rfl, rfl⟩
        rw [kaf_0]
        try unfold kbeg
        try unfold kend
        first | (rw [if_pos (by omega)]; rfl) | (rw [if_neg (by omega), if_pos (by omega)]; rfl) | (rw [if_neg (by omega), if_neg (by omega), if_pos (by omega)]; rfl) | (rw [if_neg (by omega), if_neg (by omega), if_neg (by omega)]; rfl) | (rw [if_neg (by omega), if_neg (by omega)]; rfl) | (rw [if_neg (by omega)]; rfl)
      · refine e_iconst dX10_ruleStep_78 ?_
        refine e_goto (tgt := 83) dX10_ruleStep_79 (by decide) ?_
        refine e_ireturn dX10_ruleStep_83 rfl rfl ?_
        refine ⟨?_, rfl, rfl⟩
        rw [kaf_0]
        try unfold kbeg
        try unfold kend
        first | (rw [if_pos (by omega)]; rfl) | (rw [if_neg (by omega), if_pos (by omega)]; rfl) | (rw [if_neg (by omega), if_neg (by omega), if_pos (by omega)]; rfl) | (rw [if_neg (by omega), if_neg (by omega), if_neg (by omega)]; rfl) | (rw [if_neg (by omega), if_neg (by omega)]; rfl) | (rw [if_neg (by omega)]; rfl)
  · refine e_iconst dX10_ruleStep_62 ?_
    refine e_goto (tgt := 83) dX10_ruleStep_63 (by decide) ?_
    refine e_ireturn dX10_ruleStep_83 rfl rfl ?_
    refine ⟨?_, rfl, rfl⟩
    rw [kaf_0]
    try unfold kbeg
    try unfold kend
    first | (rw [if_pos (by omega)]; rfl) | (rw [if_neg (by omega), if_pos (by omega)]; rfl) | (rw [if_neg (by omega), if_neg (by omega), if_pos (by omega)]; rfl) | (rw [if_neg (by omega), if_neg (by omega), if_neg (by omega)]; rfl) | (rw [if_neg (by omega), if_neg (by omega)]; rfl) | (rw [if_neg (by omega)]; rfl)
set_option maxHeartbeats 4000000 in
set_option maxRecDepth 100000 in
theorem j_rule1 {G : kG} {d : Nat} {h : Nat → Option kC} {n : Nat} {x : Int} (hx : inI x) : kCall G mX10_ruleStep (d + 2) 0 0 [.int (jI 9), .int (jI x)] h n (kre (some (.int (jI (kmr (kaf 1 x))))) h n) := by
  show kE G mX10_ruleStep (d + 2) 0 0 0 [some (.int (jI 9)), some (.int (jI x))] [] h n _
  refine e_iload_n rfl dX10_ruleStep_0 ?_
  refine e_tabIn (tgt := 84) dX10_ruleStep_1 (by unfold inI; omega) (by decide) (by decide) rfl (by decide) ?_
  refine e_iload_n rfl dX10_ruleStep_84 ?_
  refine e_bipush (by decide) dX10_ruleStep_85 ?_
  refine e_icmp_eq (tgt := 96) dX10_ruleStep_87 (by decide) (by first | assumption | (unfold inI at *; omega)) (by first | assumption | (unfold inI at *; omega)) (fun c87 => ?_) (fun c87 => ?_)
  · refine e_iconst dX10_ruleStep_96 ?_
    refine e_goto (tgt := 101) dX10_ruleStep_97 (by decide) ?_
    refine e_ireturn dX10_ruleStep_101 rfl rfl ?_
    refine ⟨?_, rfl, rfl⟩
    rw [kaf_1]
    try unfold kbeg
    try unfold kend
    first | (rw [if_pos (by omega)]; rfl) | (rw [if_neg (by omega), if_pos (by omega)]; rfl) | (rw [if_neg (by omega), if_neg (by omega), if_pos (by omega)]; rfl) | (rw [if_neg (by omega), if_neg (by omega), if_neg (by omega)]; rfl) | (rw [if_neg (by omega), if_neg (by omega)]; rfl) | (rw [if_neg (by omega)]; rfl)
  · refine e_iload_n rfl dX10_ruleStep_90 ?_
    refine e_bipush (by decide) dX10_ruleStep_91 ?_
    refine e_icmp_ne (tgt := 100) dX10_ruleStep_93 (by decide) (by first | assumption | (unfold inI at *; omega)) (by first | assumption | (unfold inI at *; omega)) (fun c93 => ?_) (fun c93 => ?_)
    · refine e_iconst dX10_ruleStep_100 ?_
      refine e_ireturn dX10_ruleStep_101 rfl rfl ?_
      refine ⟨?_, rfl, rfl⟩
      rw [kaf_1]
      try unfold kbeg
      try unfold kend
      first | (rw [if_pos (by omega)]; rfl) | (rw [if_neg (by omega), if_pos (by omega)]; rfl) | (rw [if_neg (by omega), if_neg (by omega), if_pos (by omega)]; rfl) | (rw [if_neg (by omega), if_neg (by omega), if_neg (by omega)]; rfl) | (rw [if_neg (by omega), if_neg (by omega)]; rfl) | (rw [if_neg (by omega)]; rfl)
    · refine e_iconst dX10_ruleStep_96 ?_
      refine e_goto (tgt := 101) dX10_ruleStep_97 (by decide) ?_
      refine e_ireturn dX10_ruleStep_101 rfl rfl ?_
      refine ⟨?_, rfl, rfl⟩
      rw [kaf_1]
      try unfold kbeg
      try unfold kend
      first | (rw [if_pos (by omega)]; rfl) | (rw [if_neg (by omega), if_pos (by omega)]; rfl) | (rw [if_neg (by omega), if_neg (by omega), if_pos (by omega)]; rfl) | (rw [if_neg (by omega), if_neg (by omega), if_neg (by omega)]; rfl) | (rw [if_neg (by omega), if_neg (by omega)]; rfl) | (rw [if_neg (by omega)]; rfl)
set_option maxHeartbeats 4000000 in
set_option maxRecDepth 100000 in
theorem j_rule2 {G : kG} {d : Nat} {h : Nat → Option kC} {n : Nat} {x : Int} (hx : inI x) : kCall G mX10_ruleStep (d + 2) 0 0 [.int (jI 2), .int (jI x)] h n (kre (some (.int (jI (kmr (kaf 2 x))))) h n) := by
  show kE G mX10_ruleStep (d + 2) 0 0 0 [some (.int (jI 2)), some (.int (jI x))] [] h n _
  refine e_iload_n rfl dX10_ruleStep_0 ?_
  refine e_tabIn (tgt := 115) dX10_ruleStep_1 (by unfold inI; omega) (by decide) (by decide) rfl (by decide) ?_
  refine e_iload_n rfl dX10_ruleStep_115 ?_
  refine e_bipush (by decide) dX10_ruleStep_116 ?_
  refine e_icmp_eq (tgt := 133) dX10_ruleStep_118 (by decide) (by first | assumption | (unfold inI at *; omega)) (by first | assumption | (unfold inI at *; omega)) (fun c118 => ?_) (fun c118 => ?_)
  · refine e_iconst dX10_ruleStep_133 ?_
    refine e_goto (tgt := 138) dX10_ruleStep_134 (by decide) ?_
    refine e_ireturn dX10_ruleStep_138 rfl rfl ?_
    refine ⟨?_, rfl, rfl⟩
    rw [kaf_2]
    try unfold kbeg
    try unfold kend
    first | (rw [if_pos (by omega)]; rfl) | (rw [if_neg (by omega), if_pos (by omega)]; rfl) | (rw [if_neg (by omega), if_neg (by omega), if_pos (by omega)]; rfl) | (rw [if_neg (by omega), if_neg (by omega), if_neg (by omega)]; rfl) | (rw [if_neg (by omega), if_neg (by omega)]; rfl) | (rw [if_neg (by omega)]; rfl)
  · refine e_iload_n rfl dX10_ruleStep_121 ?_
    refine e_bipush (by decide) dX10_ruleStep_122 ?_
    refine e_icmp_eq (tgt := 133) dX10_ruleStep_124 (by decide) (by first | assumption | (unfold inI at *; omega)) (by first | assumption | (unfold inI at *; omega)) (fun c124 => ?_) (fun c124 => ?_)
    · refine e_iconst dX10_ruleStep_133 ?_
      refine e_goto (tgt := 138) dX10_ruleStep_134 (by decide) ?_
      refine e_ireturn dX10_ruleStep_138 rfl rfl ?_
      refine ⟨?_, rfl, rfl⟩
      rw [kaf_2]
      try unfold kbeg
      try unfold kend
      first | (rw [if_pos (by omega)]; rfl) | (rw [if_neg (by omega), if_pos (by omega)]; rfl) | (rw [if_neg (by omega), if_neg (by omega), if_pos (by omega)]; rfl) | (rw [if_neg (by omega), if_neg (by omega), if_neg (by omega)]; rfl) | (rw [if_neg (by omega), if_neg (by omega)]; rfl) | (rw [if_neg (by omega)]; rfl)
    · refine e_iload_n rfl dX10_ruleStep_127 ?_
      refine e_bipush (by decide) dX10_ruleStep_128 ?_
      refine e_icmp_ne (tgt := 137) dX10_ruleStep_130 (by decide) (by first | assumption | (unfold inI at *; omega)) (by first | assumption | (unfold inI at *; omega)) (fun c130 => ?_) (fun c130 => ?_)
      · refine e_iconst dX10_ruleStep_137 ?_
        refine e_ireturn dX10_ruleStep_138 rfl rfl ?_
        refine ⟨?_, rfl, rfl⟩
        rw [kaf_2]
        try unfold kbeg
        try unfold kend
        first | (rw [if_pos (by omega)]; rfl) | (rw [if_neg (by omega), if_pos (by omega)]; rfl) | (rw [if_neg (by omega), if_neg (by omega), if_pos (by omega)]; rfl) | (rw [if_neg (by omega), if_neg (by omega), if_neg (by omega)]; rfl) | (rw [if_neg (by omega), if_neg (by omega)]; rfl) | (rw [if_neg (by omega)]; rfl)
      · refine e_iconst dX10_ruleStep_133 ?_
        refine e_goto (tgt := 138) dX10_ruleStep_134 (by decide) ?_
        refine e_ireturn dX10_ruleStep_138 rfl rfl ?_
        refine ⟨?_, rfl, rfl⟩
        rw [kaf_2]
        try unfold kbeg
        try unfold kend
        first | (rw [if_pos (by omega)]; rfl) | (rw [if_neg (by omega), if_pos (by omega)]; rfl) | (rw [if_neg (by omega), if_neg (by omega), if_pos (by omega)]; rfl) | (rw [if_neg (by omega), if_neg (by omega), if_neg (by omega)]; rfl) | (rw [if_neg (by omega), if_neg (by omega)]; rfl) | (rw [if_neg (by omega)]; rfl)
set_option maxHeartbeats 4000000 in
set_option maxRecDepth 100000 in
theorem j_rule3 {G : kG} {d : Nat} {h : Nat → Option kC} {n : Nat} {x : Int} (hx : inI x) : kCall G mX10_ruleStep (d + 2) 0 0 [.int (jI 3), .int (jI x)] h n (kre (some (.int (jI (kmr (kaf 3 x))))) h n) := by
  show kE G mX10_ruleStep (d + 2) 0 0 0 [some (.int (jI 3)), some (.int (jI x))] [] h n _
  refine e_iload_n rfl dX10_ruleStep_0 ?_
  refine e_tabIn (tgt := 139) dX10_ruleStep_1 (by unfold inI; omega) (by decide) (by decide) rfl (by decide) ?_
  refine e_iload_n rfl dX10_ruleStep_139 ?_
  refine eS1 mtX10_isDigit msX10_isDigit lkX10_115 dX10_ruleStep_140 rfl rfl (j_isDigit (by first | assumption | (unfold inI at *; omega))) ?_
  dsimp only [Option.toList, List.cons_append, List.nil_append]
  refine e_ifeqP (tgt := 150) dX10_ruleStep_143 (by decide) (fun c143 => ?_) (fun c143 => ?_)
  · refine e_iconst dX10_ruleStep_150 ?_
    refine e_ireturn dX10_ruleStep_151 rfl rfl ?_
    refine ⟨?_, rfl, rfl⟩
    rw [kaf_3]
    try unfold kbeg
    try unfold kend
    first | (rw [if_pos (by omega)]; rfl) | (rw [if_neg (by omega), if_pos (by omega)]; rfl) | (rw [if_neg (by omega), if_neg (by omega), if_pos (by omega)]; rfl) | (rw [if_neg (by omega), if_neg (by omega), if_neg (by omega)]; rfl) | (rw [if_neg (by omega), if_neg (by omega)]; rfl) | (rw [if_neg (by omega)]; rfl)
  · refine e_iconst dX10_ruleStep_146 ?_
    refine e_goto (tgt := 151) dX10_ruleStep_147 (by decide) ?_
    refine e_ireturn dX10_ruleStep_151 rfl rfl ?_
    refine ⟨?_, rfl, rfl⟩
    rw [kaf_3]
    try unfold kbeg
    try unfold kend
    first | (rw [if_pos (by omega)]; rfl) | (rw [if_neg (by omega), if_pos (by omega)]; rfl) | (rw [if_neg (by omega), if_neg (by omega), if_pos (by omega)]; rfl) | (rw [if_neg (by omega), if_neg (by omega), if_neg (by omega)]; rfl) | (rw [if_neg (by omega), if_neg (by omega)]; rfl) | (rw [if_neg (by omega)]; rfl)
set_option maxHeartbeats 4000000 in
set_option maxRecDepth 100000 in
theorem j_rule4 {G : kG} {d : Nat} {h : Nat → Option kC} {n : Nat} {x : Int} (hx : inI x) : kCall G mX10_ruleStep (d + 2) 0 0 [.int (jI 4), .int (jI x)] h n (kre (some (.int (jI (kmr (kaf 4 x))))) h n) := by
  show kE G mX10_ruleStep (d + 2) 0 0 0 [some (.int (jI 4)), some (.int (jI x))] [] h n _
  refine e_iload_n rfl dX10_ruleStep_0 ?_
  refine e_tabIn (tgt := 152) dX10_ruleStep_1 (by unfold inI; omega) (by decide) (by decide) rfl (by decide) ?_
  refine e_iload_n rfl dX10_ruleStep_152 ?_
  refine eS1 mtX10_isDigit msX10_isDigit lkX10_115 dX10_ruleStep_153 rfl rfl (j_isDigit (by first | assumption | (unfold inI at *; omega))) ?_
  dsimp only [Option.toList, List.cons_append, List.nil_append]
  refine e_ifeqP (tgt := 168) dX10_ruleStep_156 (by decide) (fun c156 => ?_) (fun c156 => ?_)
  · refine e_iload_n rfl dX10_ruleStep_168 ?_
    refine e_bipush (by decide) dX10_ruleStep_169 ?_
    refine e_icmp_ne (tgt := 179) dX10_ruleStep_171 (by decide) (by first | assumption | (unfold inI at *; omega)) (by first | assumption | (unfold inI at *; omega)) (fun c171 => ?_) (fun c171 => ?_)
    · refine e_iload_n rfl dX10_ruleStep_179 ?_
      refine e_bipush (by decide) dX10_ruleStep_180 ?_
      refine e_icmp_ne (tgt := 190) dX10_ruleStep_182 (by decide) (by first | assumption | (unfold inI at *; omega)) (by first | assumption | (unfold inI at *; omega)) (fun c182 => ?_) (fun c182 => ?_)
      · refine e_iconst dX10_ruleStep_190 ?_
        refine e_ireturn dX10_ruleStep_191 rfl rfl ?_
        refine ⟨?_, rfl, rfl⟩
        rw [kaf_4]
        try unfold kbeg
        try unfold kend
        first | (rw [if_pos (by omega)]; rfl) | (rw [if_neg (by omega), if_pos (by omega)]; rfl) | (rw [if_neg (by omega), if_neg (by omega), if_pos (by omega)]; rfl) | (rw [if_neg (by omega), if_neg (by omega), if_neg (by omega)]; rfl) | (rw [if_neg (by omega), if_neg (by omega)]; rfl) | (rw [if_neg (by omega)]; rfl)
      · refine e_bipush (by decide) dX10_ruleStep_185 ?_
        refine e_goto (tgt := 191) dX10_ruleStep_187 (by decide) ?_
        refine e_ireturn dX10_ruleStep_191 rfl rfl ?_
        refine ⟨?_, rfl, rfl⟩
        rw [kaf_4]
        try unfold kbeg
        try unfold kend
        first | (rw [if_pos (by omega)]; rfl) | (rw [if_neg (by omega), if_pos (by omega)]; rfl) | (rw [if_neg (by omega), if_neg (by omega), if_pos (by omega)]; rfl) | (rw [if_neg (by omega), if_neg (by omega), if_neg (by omega)]; rfl) | (rw [if_neg (by omega), if_neg (by omega)]; rfl) | (rw [if_neg (by omega)]; rfl)
    · refine e_bipush (by decide) dX10_ruleStep_174 ?_
      refine e_goto (tgt := 191) dX10_ruleStep_176 (by decide) ?_
      refine e_ireturn dX10_ruleStep_191 rfl rfl ?_
      refine ⟨?_, rfl, rfl⟩
      rw [kaf_4]
      try unfold kbeg
      try unfold kend
      first | (rw [if_pos (by omega)]; rfl) | (rw [if_neg (by omega), if_pos (by omega)]; rfl) | (rw [if_neg (by omega), if_neg (by omega), if_pos (by omega)]; rfl) | (rw [if_neg (by omega), if_neg (by omega), if_neg (by omega)]; rfl) | (rw [if_neg (by omega), if_neg (by omega)]; rfl) | (rw [if_neg (by omega)]; rfl)
  · refine e_iload_n rfl dX10_ruleStep_159 ?_
    refine e_iconst dX10_ruleStep_160 ?_
    refine e_icmp_ne (tgt := 168) dX10_ruleStep_161 (by decide) (by first | assumption | (unfold inI at *; omega)) (by first | assumption | (unfold inI at *; omega)) (fun c161 => ?_) (fun c161 => ?_)
    · exact absurd c161 (by omega)
    · refine e_iconst dX10_ruleStep_164 ?_
      refine e_goto (tgt := 191) dX10_ruleStep_165 (by decide) ?_
      refine e_ireturn dX10_ruleStep_191 rfl rfl ?_
      refine ⟨?_, rfl, rfl⟩
      rw [kaf_4]
      try unfold kbeg
      try unfold kend
      first | (rw [if_pos (by omega)]; rfl) | (rw [if_neg (by omega), if_pos (by omega)]; rfl) | (rw [if_neg (by omega), if_neg (by omega), if_pos (by omega)]; rfl) | (rw [if_neg (by omega), if_neg (by omega), if_neg (by omega)]; rfl) | (rw [if_neg (by omega), if_neg (by omega)]; rfl) | (rw [if_neg (by omega)]; rfl)
set_option maxHeartbeats 4000000 in
set_option maxRecDepth 100000 in
theorem j_rule5 {G : kG} {d : Nat} {h : Nat → Option kC} {n : Nat} {x : Int} (hx : inI x) : kCall G mX10_ruleStep (d + 2) 0 0 [.int (jI 5), .int (jI x)] h n (kre (some (.int (jI (kmr (kaf 5 x))))) h n) := by
  show kE G mX10_ruleStep (d + 2) 0 0 0 [some (.int (jI 5)), some (.int (jI x))] [] h n _
  refine e_iload_n rfl dX10_ruleStep_0 ?_
  refine e_tabIn (tgt := 152) dX10_ruleStep_1 (by unfold inI; omega) (by decide) (by decide) rfl (by decide) ?_
  refine e_iload_n rfl dX10_ruleStep_152 ?_
  refine eS1 mtX10_isDigit msX10_isDigit lkX10_115 dX10_ruleStep_153 rfl rfl (j_isDigit (by first | assumption | (unfold inI at *; omega))) ?_
  dsimp only [Option.toList, List.cons_append, List.nil_append]
  refine e_ifeqP (tgt := 168) dX10_ruleStep_156 (by decide) (fun c156 => ?_) (fun c156 => ?_)
  · refine e_iload_n rfl dX10_ruleStep_168 ?_
    refine e_bipush (by decide) dX10_ruleStep_169 ?_
    refine e_icmp_ne (tgt := 179) dX10_ruleStep_171 (by decide) (by first | assumption | (unfold inI at *; omega)) (by first | assumption | (unfold inI at *; omega)) (fun c171 => ?_) (fun c171 => ?_)
    · refine e_iload_n rfl dX10_ruleStep_179 ?_
      refine e_bipush (by decide) dX10_ruleStep_180 ?_
      refine e_icmp_ne (tgt := 190) dX10_ruleStep_182 (by decide) (by first | assumption | (unfold inI at *; omega)) (by first | assumption | (unfold inI at *; omega)) (fun c182 => ?_) (fun c182 => ?_)
      · refine e_iconst dX10_ruleStep_190 ?_
        refine e_ireturn dX10_ruleStep_191 rfl rfl ?_
        refine ⟨?_, rfl, rfl⟩
        rw [kaf_5]
        try unfold kbeg
        try unfold kend
        first | (rw [if_pos (by omega)]; rfl) | (rw [if_neg (by omega), if_pos (by omega)]; rfl) | (rw [if_neg (by omega), if_neg (by omega), if_pos (by omega)]; rfl) | (rw [if_neg (by omega), if_neg (by omega), if_neg (by omega)]; rfl) | (rw [if_neg (by omega), if_neg (by omega)]; rfl) | (rw [if_neg (by omega)]; rfl)
      · refine e_bipush (by decide) dX10_ruleStep_185 ?_
        refine e_goto (tgt := 191) dX10_ruleStep_187 (by decide) ?_
        refine e_ireturn dX10_ruleStep_191 rfl rfl ?_
        refine ⟨?_, rfl, rfl⟩
        rw [kaf_5]
        try unfold kbeg
        try unfold kend
        first | (rw [if_pos (by omega)]; rfl) | (rw [if_neg (by omega), if_pos (by omega)]; rfl) | (rw [if_neg (by omega), if_neg (by omega), if_pos (by omega)]; rfl) | (rw [if_neg (by omega), if_neg (by omega), if_neg (by omega)]; rfl) | (rw [if_neg (by omega), if_neg (by omega)]; rfl) | (rw [if_neg (by omega)]; rfl)
    · refine e_bipush (by decide) dX10_ruleStep_174 ?_
      refine e_goto (tgt := 191) dX10_ruleStep_176 (by decide) ?_
      refine e_ireturn dX10_ruleStep_191 rfl rfl ?_
      refine ⟨?_, rfl, rfl⟩
      rw [kaf_5]
      try unfold kbeg
      try unfold kend
      first | (rw [if_pos (by omega)]; rfl) | (rw [if_neg (by omega), if_pos (by omega)]; rfl) | (rw [if_neg (by omega), if_neg (by omega), if_pos (by omega)]; rfl) | (rw [if_neg (by omega), if_neg (by omega), if_neg (by omega)]; rfl) | (rw [if_neg (by omega), if_neg (by omega)]; rfl) | (rw [if_neg (by omega)]; rfl)
  · refine e_iload_n rfl dX10_ruleStep_159 ?_
    refine e_iconst dX10_ruleStep_160 ?_
    refine e_icmp_ne (tgt := 168) dX10_ruleStep_161 (by decide) (by first | assumption | (unfold inI at *; omega)) (by first | assumption | (unfold inI at *; omega)) (fun c161 => ?_) (fun c161 => ?_)
    · refine e_iload_n rfl dX10_ruleStep_168 ?_
      refine e_bipush (by decide) dX10_ruleStep_169 ?_
      refine e_icmp_ne (tgt := 179) dX10_ruleStep_171 (by decide) (by first | assumption | (unfold inI at *; omega)) (by first | assumption | (unfold inI at *; omega)) (fun c171 => ?_) (fun c171 => ?_)
      · refine e_iload_n rfl dX10_ruleStep_179 ?_
        refine e_bipush (by decide) dX10_ruleStep_180 ?_
        refine e_icmp_ne (tgt := 190) dX10_ruleStep_182 (by decide) (by first | assumption | (unfold inI at *; omega)) (by first | assumption | (unfold inI at *; omega)) (fun c182 => ?_) (fun c182 => ?_)
        · refine e_iconst dX10_ruleStep_190 ?_
          refine e_ireturn dX10_ruleStep_191 rfl rfl ?_
          refine ⟨?_, rfl, rfl⟩
          rw [kaf_5]
          try unfold kbeg
          try unfold kend
          first | (rw [if_pos (by omega)]; rfl) | (rw [if_neg (by omega), if_pos (by omega)]; rfl) | (rw [if_neg (by omega), if_neg (by omega), if_pos (by omega)]; rfl) | (rw [if_neg (by omega), if_neg (by omega), if_neg (by omega)]; rfl) | (rw [if_neg (by omega), if_neg (by omega)]; rfl) | (rw [if_neg (by omega)]; rfl)
        · refine e_bipush (by decide) dX10_ruleStep_185 ?_
          refine e_goto (tgt := 191) dX10_ruleStep_187 (by decide) ?_
          refine e_ireturn dX10_ruleStep_191 rfl rfl ?_
          refine ⟨?_, rfl, rfl⟩
          rw [kaf_5]
          try unfold kbeg
          try unfold kend
          first | (rw [if_pos (by omega)]; rfl) | (rw [if_neg (by omega), if_pos (by omega)]; rfl) | (rw [if_neg (by omega), if_neg (by omega), if_pos (by omega)]; rfl) | (rw [if_neg (by omega), if_neg (by omega), if_neg (by omega)]; rfl) | (rw [if_neg (by omega), if_neg (by omega)]; rfl) | (rw [if_neg (by omega)]; rfl)
      · refine e_bipush (by decide) dX10_ruleStep_174 ?_
        refine e_goto (tgt := 191) dX10_ruleStep_176 (by decide) ?_
        refine e_ireturn dX10_ruleStep_191 rfl rfl ?_
        refine ⟨?_, rfl, rfl⟩
        rw [kaf_5]
        try unfold kbeg
        try unfold kend
        first | (rw [if_pos (by omega)]; rfl) | (rw [if_neg (by omega), if_pos (by omega)]; rfl) | (rw [if_neg (by omega), if_neg (by omega), if_pos (by omega)]; rfl) | (rw [if_neg (by omega), if_neg (by omega), if_neg (by omega)]; rfl) | (rw [if_neg (by omega), if_neg (by omega)]; rfl) | (rw [if_neg (by omega)]; rfl)
    · exact absurd c161 (by omega)
set_option maxHeartbeats 4000000 in
set_option maxRecDepth 100000 in
theorem j_rule6 {G : kG} {d : Nat} {h : Nat → Option kC} {n : Nat} {x : Int} (hx : inI x) : kCall G mX10_ruleStep (d + 2) 0 0 [.int (jI 1), .int (jI x)] h n (kre (some (.int (jI (kmr (kaf 6 x))))) h n) := by
  show kE G mX10_ruleStep (d + 2) 0 0 0 [some (.int (jI 1)), some (.int (jI x))] [] h n _
  refine e_iload_n rfl dX10_ruleStep_0 ?_
  refine e_tabIn (tgt := 102) dX10_ruleStep_1 (by unfold inI; omega) (by decide) (by decide) rfl (by decide) ?_
  refine e_iload_n rfl dX10_ruleStep_102 ?_
  refine e_bipush (by decide) dX10_ruleStep_103 ?_
  refine e_icmp_ne (tgt := 113) dX10_ruleStep_105 (by decide) (by first | assumption | (unfold inI at *; omega)) (by first | assumption | (unfold inI at *; omega)) (fun c105 => ?_) (fun c105 => ?_)
  · refine e_iconst dX10_ruleStep_113 ?_
    refine e_ireturn dX10_ruleStep_114 rfl rfl ?_
    refine ⟨?_, rfl, rfl⟩
    rw [kaf_6]
    try unfold kbeg
    try unfold kend
    first | (rw [if_pos (by omega)]; rfl) | (rw [if_neg (by omega), if_pos (by omega)]; rfl) | (rw [if_neg (by omega), if_neg (by omega), if_pos (by omega)]; rfl) | (rw [if_neg (by omega), if_neg (by omega), if_neg (by omega)]; rfl) | (rw [if_neg (by omega), if_neg (by omega)]; rfl) | (rw [if_neg (by omega)]; rfl)
  · refine e_bipush (by decide) dX10_ruleStep_108 ?_
    refine e_goto (tgt := 114) dX10_ruleStep_110 (by decide) ?_
    refine e_ireturn dX10_ruleStep_114 rfl rfl ?_
    refine ⟨?_, rfl, rfl⟩
    rw [kaf_6]
    try unfold kbeg
    try unfold kend
    first | (rw [if_pos (by omega)]; rfl) | (rw [if_neg (by omega), if_pos (by omega)]; rfl) | (rw [if_neg (by omega), if_neg (by omega), if_pos (by omega)]; rfl) | (rw [if_neg (by omega), if_neg (by omega), if_neg (by omega)]; rfl) | (rw [if_neg (by omega), if_neg (by omega)]; rfl) | (rw [if_neg (by omega)]; rfl)
set_option maxHeartbeats 4000000 in
set_option maxRecDepth 100000 in
theorem j_rule7 {G : kG} {d : Nat} {h : Nat → Option kC} {n : Nat} {x : Int} (hx : inI x) : kCall G mX10_ruleStep (d + 2) 0 0 [.int (jI 6), .int (jI x)] h n (kre (some (.int (jI (kmr (kaf 7 x))))) h n) := by
  show kE G mX10_ruleStep (d + 2) 0 0 0 [some (.int (jI 6)), some (.int (jI x))] [] h n _
  refine e_iload_n rfl dX10_ruleStep_0 ?_
  refine e_tabIn (tgt := 192) dX10_ruleStep_1 (by unfold inI; omega) (by decide) (by decide) rfl (by decide) ?_
  refine e_iload_n rfl dX10_ruleStep_192 ?_
  refine eS1 mtX10_isDigit msX10_isDigit lkX10_115 dX10_ruleStep_193 rfl rfl (j_isDigit (by first | assumption | (unfold inI at *; omega))) ?_
  dsimp only [Option.toList, List.cons_append, List.nil_append]
  refine e_ifeqP (tgt := 204) dX10_ruleStep_196 (by decide) (fun c196 => ?_) (fun c196 => ?_)
  · refine e_iconst dX10_ruleStep_204 ?_
    refine e_ireturn dX10_ruleStep_205 rfl rfl ?_
    refine ⟨?_, rfl, rfl⟩
    rw [kaf_7]
    try unfold kbeg
    try unfold kend
    first | (rw [if_pos (by omega)]; rfl) | (rw [if_neg (by omega), if_pos (by omega)]; rfl) | (rw [if_neg (by omega), if_neg (by omega), if_pos (by omega)]; rfl) | (rw [if_neg (by omega), if_neg (by omega), if_neg (by omega)]; rfl) | (rw [if_neg (by omega), if_neg (by omega)]; rfl) | (rw [if_neg (by omega)]; rfl)
  · refine e_bipush (by decide) dX10_ruleStep_199 ?_
    refine e_goto (tgt := 205) dX10_ruleStep_201 (by decide) ?_
    refine e_ireturn dX10_ruleStep_205 rfl rfl ?_
    refine ⟨?_, rfl, rfl⟩
    rw [kaf_7]
    try unfold kbeg
    try unfold kend
    first | (rw [if_pos (by omega)]; rfl) | (rw [if_neg (by omega), if_pos (by omega)]; rfl) | (rw [if_neg (by omega), if_neg (by omega), if_pos (by omega)]; rfl) | (rw [if_neg (by omega), if_neg (by omega), if_neg (by omega)]; rfl) | (rw [if_neg (by omega), if_neg (by omega)]; rfl) | (rw [if_neg (by omega)]; rfl)
set_option maxHeartbeats 4000000 in
set_option maxRecDepth 100000 in
theorem j_rule8 {G : kG} {d : Nat} {h : Nat → Option kC} {n : Nat} {x : Int} (hx : inI x) : kCall G mX10_ruleStep (d + 2) 0 0 [.int (jI 7), .int (jI x)] h n (kre (some (.int (jI (kmr (kaf 8 x))))) h n) := by
  show kE G mX10_ruleStep (d + 2) 0 0 0 [some (.int (jI 7)), some (.int (jI x))] [] h n _
  refine e_iload_n rfl dX10_ruleStep_0 ?_
  refine e_tabIn (tgt := 206) dX10_ruleStep_1 (by unfold inI; omega) (by decide) (by decide) rfl (by decide) ?_
  refine e_iload_n rfl dX10_ruleStep_206 ?_
  refine eS1 mtX10_isDigit msX10_isDigit lkX10_115 dX10_ruleStep_207 rfl rfl (j_isDigit (by first | assumption | (unfold inI at *; omega))) ?_
  dsimp only [Option.toList, List.cons_append, List.nil_append]
  refine e_ifeqP (tgt := 224) dX10_ruleStep_210 (by decide) (fun c210 => ?_) (fun c210 => ?_)
  · refine e_iload_n rfl dX10_ruleStep_224 ?_
    refine e_bipush (by decide) dX10_ruleStep_225 ?_
    refine e_icmp_ne (tgt := 234) dX10_ruleStep_227 (by decide) (by first | assumption | (unfold inI at *; omega)) (by first | assumption | (unfold inI at *; omega)) (fun c227 => ?_) (fun c227 => ?_)
    · refine e_iconst dX10_ruleStep_234 ?_
      refine e_ireturn dX10_ruleStep_235 rfl rfl ?_
      refine ⟨?_, rfl, rfl⟩
      rw [kaf_8]
      try unfold kbeg
      try unfold kend
      first | (rw [if_pos (by omega)]; rfl) | (rw [if_neg (by omega), if_pos (by omega)]; rfl) | (rw [if_neg (by omega), if_neg (by omega), if_pos (by omega)]; rfl) | (rw [if_neg (by omega), if_neg (by omega), if_neg (by omega)]; rfl) | (rw [if_neg (by omega), if_neg (by omega)]; rfl) | (rw [if_neg (by omega)]; rfl)
    · refine e_iconst dX10_ruleStep_230 ?_
      refine e_goto (tgt := 235) dX10_ruleStep_231 (by decide) ?_
      refine e_ireturn dX10_ruleStep_235 rfl rfl ?_
      refine ⟨?_, rfl, rfl⟩
      rw [kaf_8]
      try unfold kbeg
      try unfold kend
      first | (rw [if_pos (by omega)]; rfl) | (rw [if_neg (by omega), if_pos (by omega)]; rfl) | (rw [if_neg (by omega), if_neg (by omega), if_pos (by omega)]; rfl) | (rw [if_neg (by omega), if_neg (by omega), if_neg (by omega)]; rfl) | (rw [if_neg (by omega), if_neg (by omega)]; rfl) | (rw [if_neg (by omega)]; rfl)
  · refine e_iload_n rfl dX10_ruleStep_213 ?_
    refine e_bipush (by decide) dX10_ruleStep_214 ?_
    refine e_icmp_ne (tgt := 224) dX10_ruleStep_216 (by decide) (by first | assumption | (unfold inI at *; omega)) (by first | assumption | (unfold inI at *; omega)) (fun c216 => ?_) (fun c216 => ?_)
    · exact absurd c216 (by omega)
    · refine e_bipush (by decide) dX10_ruleStep_219 ?_
      refine e_goto (tgt := 235) dX10_ruleStep_221 (by decide) ?_
      refine e_ireturn dX10_ruleStep_235 rfl rfl ?_
      refine ⟨?_, rfl, rfl⟩
      rw [kaf_8]
      try unfold kbeg
      try unfold kend
      first | (rw [if_pos (by omega)]; rfl) | (rw [if_neg (by omega), if_pos (by omega)]; rfl) | (rw [if_neg (by omega), if_neg (by omega), if_pos (by omega)]; rfl) | (rw [if_neg (by omega), if_neg (by omega), if_neg (by omega)]; rfl) | (rw [if_neg (by omega), if_neg (by omega)]; rfl) | (rw [if_neg (by omega)]; rfl)
set_option maxHeartbeats 4000000 in
set_option maxRecDepth 100000 in
theorem j_rule9 {G : kG} {d : Nat} {h : Nat → Option kC} {n : Nat} {x : Int} (hx : inI x) : kCall G mX10_ruleStep (d + 2) 0 0 [.int (jI 8), .int (jI x)] h n (kre (some (.int (jI (kmr (kaf 9 x))))) h n) := by
  show kE G mX10_ruleStep (d + 2) 0 0 0 [some (.int (jI 8)), some (.int (jI x))] [] h n _
  refine e_iload_n rfl dX10_ruleStep_0 ?_
  refine e_tabIn (tgt := 206) dX10_ruleStep_1 (by unfold inI; omega) (by decide) (by decide) rfl (by decide) ?_
  refine e_iload_n rfl dX10_ruleStep_206 ?_
  refine eS1 mtX10_isDigit msX10_isDigit lkX10_115 dX10_ruleStep_207 rfl rfl (j_isDigit (by first | assumption | (unfold inI at *; omega))) ?_
  dsimp only [Option.toList, List.cons_append, List.nil_append]
  refine e_ifeqP (tgt := 224) dX10_ruleStep_210 (by decide) (fun c210 => ?_) (fun c210 => ?_)
  · refine e_iload_n rfl dX10_ruleStep_224 ?_
    refine e_bipush (by decide) dX10_ruleStep_225 ?_
    refine e_icmp_ne (tgt := 234) dX10_ruleStep_227 (by decide) (by first | assumption | (unfold inI at *; omega)) (by first | assumption | (unfold inI at *; omega)) (fun c227 => ?_) (fun c227 => ?_)
    · refine e_iconst dX10_ruleStep_234 ?_
      refine e_ireturn dX10_ruleStep_235 rfl rfl ?_
      refine ⟨?_, rfl, rfl⟩
      rw [kaf_9]
      try unfold kbeg
      try unfold kend
      first | (rw [if_pos (by omega)]; rfl) | (rw [if_neg (by omega), if_pos (by omega)]; rfl) | (rw [if_neg (by omega), if_neg (by omega), if_pos (by omega)]; rfl) | (rw [if_neg (by omega), if_neg (by omega), if_neg (by omega)]; rfl) | (rw [if_neg (by omega), if_neg (by omega)]; rfl) | (rw [if_neg (by omega)]; rfl)
    · refine e_iconst dX10_ruleStep_230 ?_
      refine e_goto (tgt := 235) dX10_ruleStep_231 (by decide) ?_
      refine e_ireturn dX10_ruleStep_235 rfl rfl ?_
      refine ⟨?_, rfl, rfl⟩
      rw [kaf_9]
      try unfold kbeg
      try unfold kend
      first | (rw [if_pos (by omega)]; rfl) | (rw [if_neg (by omega), if_pos (by omega)]; rfl) | (rw [if_neg (by omega), if_neg (by omega), if_pos (by omega)]; rfl) | (rw [if_neg (by omega), if_neg (by omega), if_neg (by omega)]; rfl) | (rw [if_neg (by omega), if_neg (by omega)]; rfl) | (rw [if_neg (by omega)]; rfl)
  · refine e_iload_n rfl dX10_ruleStep_213 ?_
    refine e_bipush (by decide) dX10_ruleStep_214 ?_
    refine e_icmp_ne (tgt := 224) dX10_ruleStep_216 (by decide) (by first | assumption | (unfold inI at *; omega)) (by first | assumption | (unfold inI at *; omega)) (fun c216 => ?_) (fun c216 => ?_)
    · refine e_iload_n rfl dX10_ruleStep_224 ?_
      refine e_bipush (by decide) dX10_ruleStep_225 ?_
      refine e_icmp_ne (tgt := 234) dX10_ruleStep_227 (by decide) (by first | assumption | (unfold inI at *; omega)) (by first | assumption | (unfold inI at *; omega)) (fun c227 => ?_) (fun c227 => ?_)
      · refine e_iconst dX10_ruleStep_234 ?_
        refine e_ireturn dX10_ruleStep_235 rfl rfl ?_
        refine ⟨?_, rfl, rfl⟩
        rw [kaf_9]
        try unfold kbeg
        try unfold kend
        first | (rw [if_pos (by omega)]; rfl) | (rw [if_neg (by omega), if_pos (by omega)]; rfl) | (rw [if_neg (by omega), if_neg (by omega), if_pos (by omega)]; rfl) | (rw [if_neg (by omega), if_neg (by omega), if_neg (by omega)]; rfl) | (rw [if_neg (by omega), if_neg (by omega)]; rfl) | (rw [if_neg (by omega)]; rfl)
      · refine e_iconst dX10_ruleStep_230 ?_
        refine e_goto (tgt := 235) dX10_ruleStep_231 (by decide) ?_
        refine e_ireturn dX10_ruleStep_235 rfl rfl ?_
        refine ⟨?_, rfl, rfl⟩
        rw [kaf_9]
        try unfold kbeg
        try unfold kend
        first | (rw [if_pos (by omega)]; rfl) | (rw [if_neg (by omega), if_pos (by omega)]; rfl) | (rw [if_neg (by omega), if_neg (by omega), if_pos (by omega)]; rfl) | (rw [if_neg (by omega), if_neg (by omega), if_neg (by omega)]; rfl) | (rw [if_neg (by omega), if_neg (by omega)]; rfl) | (rw [if_neg (by omega)]; rfl)
    · exact absurd c216 (by omega)
theorem j_ruleStep {G : kG} {d : Nat} {h : Nat → Option kC} {n : Nat} {s x : Int} (hs : 0 ≤ s ∧ s ≤ 9) (hx : inI x) : kCall G mX10_ruleStep (d + 2) 0 0 [.int (jI (kmr s)), .int (jI x)] h n (kre (some (.int (jI (kmr (kaf s x))))) h n) := by
  rcases (show s = 0 ∨ s = 1 ∨ s = 2 ∨ s = 3 ∨ s = 4 ∨ s = 5 ∨ s = 6 ∨ s = 7 ∨ s = 8 ∨ s = 9 by omega) with e | e | e | e | e | e | e | e | e | e <;> subst e
  · exact j_rule0 hx
  · exact j_rule1 hx
  · exact j_rule2 hx
  · exact j_rule3 hx
  · exact j_rule4 hx
  · exact j_rule5 hx
  · exact j_rule6 hx
  · exact j_rule7 hx
  · exact j_rule8 hx
  · exact j_rule9 hx
set_option maxHeartbeats 4000000 in
set_option maxRecDepth 100000 in
theorem j_grow10 {G : kG} {d : Nat} {h : Nat → Option kC} {n : Nat} {x : Int} (hx : inI x) : kCall G mX10_growthStep (d + 2) 0 0 [.int (jI 0), .int (jI x)] h n (kre (some (.int (jI (kmg9 (kaf 10 x))))) h n) := by
  show kE G mX10_growthStep (d + 2) 0 0 0 [some (.int (jI 0)), some (.int (jI x))] [] h n _
  refine e_iload_n rfl dX10_growthStep_0 ?_
  refine e_tabIn (tgt := 32) dX10_growthStep_1 (by unfold inI; omega) (by decide) (by decide) rfl (by decide) ?_
  refine e_iload_n rfl dX10_growthStep_32 ?_
  refine eS1 mtX10_isDigit msX10_isDigit lkX10_115 dX10_growthStep_33 rfl rfl (j_isDigit (by first | assumption | (unfold inI at *; omega))) ?_
  dsimp only [Option.toList, List.cons_append, List.nil_append]
  refine e_ifeqP (tgt := 43) dX10_growthStep_36 (by decide) (fun c36 => ?_) (fun c36 => ?_)
  · refine e_iconst dX10_growthStep_43 ?_
    refine e_ireturn dX10_growthStep_44 rfl rfl ?_
    refine ⟨?_, rfl, rfl⟩
    rw [kaf_10]
    first | (rw [if_pos (by omega)]; rfl) | (rw [if_neg (by omega), if_pos (by omega)]; rfl) | (rw [if_neg (by omega), if_neg (by omega), if_pos (by omega)]; rfl) | (rw [if_neg (by omega), if_neg (by omega), if_neg (by omega)]; rfl) | (rw [if_neg (by omega), if_neg (by omega)]; rfl) | (rw [if_neg (by omega)]; rfl)
  · refine e_iconst dX10_growthStep_39 ?_
    refine e_goto (tgt := 44) dX10_growthStep_40 (by decide) ?_
    refine e_ireturn dX10_growthStep_44 rfl rfl ?_
    refine ⟨?_, rfl, rfl⟩
    rw [kaf_10]
    first | (rw [if_pos (by omega)]; rfl) | (rw [if_neg (by omega), if_pos (by omega)]; rfl) | (rw [if_neg (by omega), if_neg (by omega), if_pos (by omega)]; rfl) | (rw [if_neg (by omega), if_neg (by omega), if_neg (by omega)]; rfl) | (rw [if_neg (by omega), if_neg (by omega)]; rfl) | (rw [if_neg (by omega)]; rfl)
set_option maxHeartbeats 4000000 in
set_option maxRecDepth 100000 in
theorem j_grow11 {G : kG} {d : Nat} {h : Nat → Option kC} {n : Nat} {x : Int} (hx : inI x) : kCall G mX10_growthStep (d + 2) 0 0 [.int (jI 1), .int (jI x)] h n (kre (some (.int (jI (kmg9 (kaf 11 x))))) h n) := by
  show kE G mX10_growthStep (d + 2) 0 0 0 [some (.int (jI 1)), some (.int (jI x))] [] h n _
  refine e_iload_n rfl dX10_growthStep_0 ?_
  refine e_tabIn (tgt := 45) dX10_growthStep_1 (by unfold inI; omega) (by decide) (by decide) rfl (by decide) ?_
  refine e_iload_n rfl dX10_growthStep_45 ?_
  refine eS1 mtX10_isDigit msX10_isDigit lkX10_115 dX10_growthStep_46 rfl rfl (j_isDigit (by first | assumption | (unfold inI at *; omega))) ?_
  dsimp only [Option.toList, List.cons_append, List.nil_append]
  refine e_ifeqP (tgt := 61) dX10_growthStep_49 (by decide) (fun c49 => ?_) (fun c49 => ?_)
  · refine e_iload_n rfl dX10_growthStep_61 ?_
    refine e_bipush (by decide) dX10_growthStep_62 ?_
    refine e_icmp_ne (tgt := 71) dX10_growthStep_64 (by decide) (by first | assumption | (unfold inI at *; omega)) (by first | assumption | (unfold inI at *; omega)) (fun c64 => ?_) (fun c64 => ?_)
    · refine e_iconst dX10_growthStep_71 ?_
      refine e_ireturn dX10_growthStep_72 rfl rfl ?_
      refine ⟨?_, rfl, rfl⟩
      rw [kaf_11]
      first | (rw [if_pos (by omega)]; rfl) | (rw [if_neg (by omega), if_pos (by omega)]; rfl) | (rw [if_neg (by omega), if_neg (by omega), if_pos (by omega)]; rfl) | (rw [if_neg (by omega), if_neg (by omega), if_neg (by omega)]; rfl) | (rw [if_neg (by omega), if_neg (by omega)]; rfl) | (rw [if_neg (by omega)]; rfl)
    · refine e_iconst dX10_growthStep_67 ?_
      refine e_goto (tgt := 72) dX10_growthStep_68 (by decide) ?_
      refine e_ireturn dX10_growthStep_72 rfl rfl ?_
      refine ⟨?_, rfl, rfl⟩
      rw [kaf_11]
      first | (rw [if_pos (by omega)]; rfl) | (rw [if_neg (by omega), if_pos (by omega)]; rfl) | (rw [if_neg (by omega), if_neg (by omega), if_pos (by omega)]; rfl) | (rw [if_neg (by omega), if_neg (by omega), if_neg (by omega)]; rfl) | (rw [if_neg (by omega), if_neg (by omega)]; rfl) | (rw [if_neg (by omega)]; rfl)
  · refine e_iload_n rfl dX10_growthStep_52 ?_
    refine e_iconst dX10_growthStep_53 ?_
    refine e_icmp_ne (tgt := 61) dX10_growthStep_54 (by decide) (by first | assumption | (unfold inI at *; omega)) (by first | assumption | (unfold inI at *; omega)) (fun c54 => ?_) (fun c54 => ?_)
    · exact absurd c54 (by omega)
    · refine e_iconst dX10_growthStep_57 ?_
      refine e_goto (tgt := 72) dX10_growthStep_58 (by decide) ?_
      refine e_ireturn dX10_growthStep_72 rfl rfl ?_
      refine ⟨?_, rfl, rfl⟩
      rw [kaf_11]
      first | (rw [if_pos (by omega)]; rfl) | (rw [if_neg (by omega), if_pos (by omega)]; rfl) | (rw [if_neg (by omega), if_neg (by omega), if_pos (by omega)]; rfl) | (rw [if_neg (by omega), if_neg (by omega), if_neg (by omega)]; rfl) | (rw [if_neg (by omega), if_neg (by omega)]; rfl) | (rw [if_neg (by omega)]; rfl)
set_option maxHeartbeats 4000000 in
set_option maxRecDepth 100000 in
theorem j_grow12 {G : kG} {d : Nat} {h : Nat → Option kC} {n : Nat} {x : Int} (hx : inI x) : kCall G mX10_growthStep (d + 2) 0 0 [.int (jI 2), .int (jI x)] h n (kre (some (.int (jI (kmg9 (kaf 12 x))))) h n) := by
  show kE G mX10_growthStep (d + 2) 0 0 0 [some (.int (jI 2)), some (.int (jI x))] [] h n _
  refine e_iload_n rfl dX10_growthStep_0 ?_
  refine e_tabIn (tgt := 45) dX10_growthStep_1 (by unfold inI; omega) (by decide) (by decide) rfl (by decide) ?_
  refine e_iload_n rfl dX10_growthStep_45 ?_
  refine eS1 mtX10_isDigit msX10_isDigit lkX10_115 dX10_growthStep_46 rfl rfl (j_isDigit (by first | assumption | (unfold inI at *; omega))) ?_
  dsimp only [Option.toList, List.cons_append, List.nil_append]
  refine e_ifeqP (tgt := 61) dX10_growthStep_49 (by decide) (fun c49 => ?_) (fun c49 => ?_)
  · refine e_iload_n rfl dX10_growthStep_61 ?_
    refine e_bipush (by decide) dX10_growthStep_62 ?_
    refine e_icmp_ne (tgt := 71) dX10_growthStep_64 (by decide) (by first | assumption | (unfold inI at *; omega)) (by first | assumption | (unfold inI at *; omega)) (fun c64 => ?_) (fun c64 => ?_)
    · refine e_iconst dX10_growthStep_71 ?_
      refine e_ireturn dX10_growthStep_72 rfl rfl ?_
      refine ⟨?_, rfl, rfl⟩
      rw [kaf_12]
      first | (rw [if_pos (by omega)]; rfl) | (rw [if_neg (by omega), if_pos (by omega)]; rfl) | (rw [if_neg (by omega), if_neg (by omega), if_pos (by omega)]; rfl) | (rw [if_neg (by omega), if_neg (by omega), if_neg (by omega)]; rfl) | (rw [if_neg (by omega), if_neg (by omega)]; rfl) | (rw [if_neg (by omega)]; rfl)
    · refine e_iconst dX10_growthStep_67 ?_
      refine e_goto (tgt := 72) dX10_growthStep_68 (by decide) ?_
      refine e_ireturn dX10_growthStep_72 rfl rfl ?_
      refine ⟨?_, rfl, rfl⟩
      rw [kaf_12]
      first | (rw [if_pos (by omega)]; rfl) | (rw [if_neg (by omega), if_pos (by omega)]; rfl) | (rw [if_neg (by omega), if_neg (by omega), if_pos (by omega)]; rfl) | (rw [if_neg (by omega), if_neg (by omega), if_neg (by omega)]; rfl) | (rw [if_neg (by omega), if_neg (by omega)]; rfl) | (rw [if_neg (by omega)]; rfl)
  · refine e_iload_n rfl dX10_growthStep_52 ?_
    refine e_iconst dX10_growthStep_53 ?_
    refine e_icmp_ne (tgt := 61) dX10_growthStep_54 (by decide) (by first | assumption | (unfold inI at *; omega)) (by first | assumption | (unfold inI at *; omega)) (fun c54 => ?_) (fun c54 => ?_)
    · refine e_iload_n rfl dX10_growthStep_61 ?_
      refine e_bipush (by decide) dX10_growthStep_62 ?_
      refine e_icmp_ne (tgt := 71) dX10_growthStep_64 (by decide) (by first | assumption | (unfold inI at *; omega)) (by first | assumption | (unfold inI at *; omega)) (fun c64 => ?_) (fun c64 => ?_)
      · refine e_iconst dX10_growthStep_71 ?_
        refine e_ireturn dX10_growthStep_72 rfl rfl ?_
        refine ⟨?_, rfl, rfl⟩
        rw [kaf_12]
        first | (rw [if_pos (by omega)]; rfl) | (rw [if_neg (by omega), if_pos (by omega)]; rfl) | (rw [if_neg (by omega), if_neg (by omega), if_pos (by omega)]; rfl) | (rw [if_neg (by omega), if_neg (by omega), if_neg (by omega)]; rfl) | (rw [if_neg (by omega), if_neg (by omega)]; rfl) | (rw [if_neg (by omega)]; rfl)
      · refine e_iconst dX10_growthStep_67 ?_
        refine e_goto (tgt := 72) dX10_growthStep_68 (by decide) ?_
        refine e_ireturn dX10_growthStep_72 rfl rfl ?_
        refine ⟨?_, rfl, rfl⟩
        rw [kaf_12]
        first | (rw [if_pos (by omega)]; rfl) | (rw [if_neg (by omega), if_pos (by omega)]; rfl) | (rw [if_neg (by omega), if_neg (by omega), if_pos (by omega)]; rfl) | (rw [if_neg (by omega), if_neg (by omega), if_neg (by omega)]; rfl) | (rw [if_neg (by omega), if_neg (by omega)]; rfl) | (rw [if_neg (by omega)]; rfl)
    · exact absurd c54 (by omega)
set_option maxHeartbeats 4000000 in
set_option maxRecDepth 100000 in
theorem j_grow13 {G : kG} {d : Nat} {h : Nat → Option kC} {n : Nat} {x : Int} (hx : inI x) : kCall G mX10_growthStep (d + 2) 0 0 [.int (jI 3), .int (jI x)] h n (kre (some (.int (jI (kmg9 (kaf 13 x))))) h n) := by
  show kE G mX10_growthStep (d + 2) 0 0 0 [some (.int (jI 3)), some (.int (jI x))] [] h n _
  refine e_iload_n rfl dX10_growthStep_0 ?_
  refine e_tabIn (tgt := 73) dX10_growthStep_1 (by unfold inI; omega) (by decide) (by decide) rfl (by decide) ?_
  refine e_iload_n rfl dX10_growthStep_73 ?_
  refine eS1 mtX10_isDigit msX10_isDigit lkX10_115 dX10_growthStep_74 rfl rfl (j_isDigit (by first | assumption | (unfold inI at *; omega))) ?_
  dsimp only [Option.toList, List.cons_append, List.nil_append]
  refine e_ifeqP (tgt := 84) dX10_growthStep_77 (by decide) (fun c77 => ?_) (fun c77 => ?_)
  · refine e_iconst dX10_growthStep_84 ?_
    refine e_ireturn dX10_growthStep_85 rfl rfl ?_
    refine ⟨?_, rfl, rfl⟩
    rw [kaf_13]
    first | (rw [if_pos (by omega)]; rfl) | (rw [if_neg (by omega), if_pos (by omega)]; rfl) | (rw [if_neg (by omega), if_neg (by omega), if_pos (by omega)]; rfl) | (rw [if_neg (by omega), if_neg (by omega), if_neg (by omega)]; rfl) | (rw [if_neg (by omega), if_neg (by omega)]; rfl) | (rw [if_neg (by omega)]; rfl)
  · refine e_iconst dX10_growthStep_80 ?_
    refine e_goto (tgt := 85) dX10_growthStep_81 (by decide) ?_
    refine e_ireturn dX10_growthStep_85 rfl rfl ?_
    refine ⟨?_, rfl, rfl⟩
    rw [kaf_13]
    first | (rw [if_pos (by omega)]; rfl) | (rw [if_neg (by omega), if_pos (by omega)]; rfl) | (rw [if_neg (by omega), if_neg (by omega), if_pos (by omega)]; rfl) | (rw [if_neg (by omega), if_neg (by omega), if_neg (by omega)]; rfl) | (rw [if_neg (by omega), if_neg (by omega)]; rfl) | (rw [if_neg (by omega)]; rfl)
set_option maxHeartbeats 4000000 in
set_option maxRecDepth 100000 in
theorem j_grow14 {G : kG} {d : Nat} {h : Nat → Option kC} {n : Nat} {x : Int} (hx : inI x) : kCall G mX10_growthStep (d + 2) 0 0 [.int (jI 4), .int (jI x)] h n (kre (some (.int (jI (kmg9 (kaf 14 x))))) h n) := by
  show kE G mX10_growthStep (d + 2) 0 0 0 [some (.int (jI 4)), some (.int (jI x))] [] h n _
  refine e_iload_n rfl dX10_growthStep_0 ?_
  refine e_tabOut (tgt := 86) dX10_growthStep_1 (by unfold inI; omega) (by decide) (by decide) ?_
  refine e_iload_n rfl dX10_growthStep_86 ?_
  refine e_bipush (by decide) dX10_growthStep_87 ?_
  refine e_icmp_ne (tgt := 96) dX10_growthStep_89 (by decide) (by first | assumption | (unfold inI at *; omega)) (by first | assumption | (unfold inI at *; omega)) (fun c89 => ?_) (fun c89 => ?_)
  · refine e_iconst dX10_growthStep_96 ?_
    refine e_ireturn dX10_growthStep_97 rfl rfl ?_
    refine ⟨?_, rfl, rfl⟩
    rw [kaf_14]
    first | (rw [if_pos (by omega)]; rfl) | (rw [if_neg (by omega), if_pos (by omega)]; rfl) | (rw [if_neg (by omega), if_neg (by omega), if_pos (by omega)]; rfl) | (rw [if_neg (by omega), if_neg (by omega), if_neg (by omega)]; rfl) | (rw [if_neg (by omega), if_neg (by omega)]; rfl) | (rw [if_neg (by omega)]; rfl)
  · refine e_iconst dX10_growthStep_92 ?_
    refine e_goto (tgt := 97) dX10_growthStep_93 (by decide) ?_
    refine e_ireturn dX10_growthStep_97 rfl rfl ?_
    refine ⟨?_, rfl, rfl⟩
    rw [kaf_14]
    first | (rw [if_pos (by omega)]; rfl) | (rw [if_neg (by omega), if_pos (by omega)]; rfl) | (rw [if_neg (by omega), if_neg (by omega), if_pos (by omega)]; rfl) | (rw [if_neg (by omega), if_neg (by omega), if_neg (by omega)]; rfl) | (rw [if_neg (by omega), if_neg (by omega)]; rfl) | (rw [if_neg (by omega)]; rfl)
theorem j_growthStep {G : kG} {d : Nat} {h : Nat → Option kC} {n : Nat} {s x : Int} (hs : 10 ≤ s ∧ s ≤ 14) (hx : inI x) : kCall G mX10_growthStep (d + 2) 0 0 [.int (jI (kmg9 s)), .int (jI x)] h n (kre (some (.int (jI (kmg9 (kaf s x))))) h n) := by
  rcases (show s = 10 ∨ s = 11 ∨ s = 12 ∨ s = 13 ∨ s = 14 by omega) with e | e | e | e | e <;> subst e
  · exact j_grow10 hx
  · exact j_grow11 hx
  · exact j_grow12 hx
  · exact j_grow13 hx
  · exact j_grow14 hx
theorem kaf_r {s x : Int} (h : 0 ≤ s ∧ s ≤ 9) : -1 ≤ kaf s x ∧ kaf s x ≤ 9 := by
  rcases (show s = 0 ∨ s = 1 ∨ s = 2 ∨ s = 3 ∨ s = 4 ∨ s = 5 ∨ s = 6 ∨ s = 7 ∨ s = 8 ∨ s = 9 by omega) with e | e | e | e | e | e | e | e | e | e <;> subst e
  · rw [kaf_0]; unfold kbeg; (repeat' split) <;> omega
  · rw [kaf_1]; unfold kbeg; (repeat' split) <;> omega
  · rw [kaf_2]; (repeat' split) <;> omega
  · rw [kaf_3]; (repeat' split) <;> omega
  · rw [kaf_4]; unfold kend; (repeat' split) <;> omega
  · rw [kaf_5]; unfold kend; (repeat' split) <;> omega
  · rw [kaf_6]; (repeat' split) <;> omega
  · rw [kaf_7]; (repeat' split) <;> omega
  · rw [kaf_8]; (repeat' split) <;> omega
  · rw [kaf_9]; (repeat' split) <;> omega
theorem kaf_g {s x : Int} (h : 10 ≤ s ∧ s ≤ 14) : kaf s x = -1 ∨ (10 ≤ kaf s x ∧ kaf s x ≤ 14) := by
  rcases (show s = 10 ∨ s = 11 ∨ s = 12 ∨ s = 13 ∨ s = 14 by omega) with e | e | e | e | e <;> subst e
  · rw [kaf_10]; (repeat' split) <;> omega
  · rw [kaf_11]; (repeat' split) <;> omega
  · rw [kaf_12]; (repeat' split) <;> omega
  · rw [kaf_13]; (repeat' split) <;> omega
  · rw [kaf_14]; (repeat' split) <;> omega
theorem krun_r (F : Nat → Int) : ∀ i : Nat, -1 ≤ krun F 0 i ∧ krun F 0 i ≤ 9
  | 0 => by unfold krun; omega
  | i + 1 => by
    have := krun_r F i
    unfold krun
    split
    · omega
    · exact kaf_r (by omega)
theorem krun_g (F : Nat → Int) : ∀ i : Nat, krun F 10 i = -1 ∨ (10 ≤ krun F 10 i ∧ krun F 10 i ≤ 14)
  | 0 => by unfold krun; omega
  | i + 1 => by
    have := krun_g F i
    unfold krun
    split
    · omega
    · exact kaf_g (by omega)
theorem kmr_in {s : Int} (h : -1 ≤ s ∧ s ≤ 9) : (-1 ≤ kmr s ∧ kmr s ≤ 9) ∧ (kmr s < 0 ↔ s = -1) ∧ (kmr s = 7 ↔ s = 8) ∧ (kmr s = 8 ↔ s = 9) := by
  unfold kmr
  (repeat' split) <;> omega
theorem kmg9_in {s : Int} (h : s = -1 ∨ (10 ≤ s ∧ s ≤ 14)) : (-1 ≤ kmg9 s ∧ kmg9 s ≤ 4) ∧ (kmg9 s < 0 ↔ s = -1) ∧ (kmg9 s = 4 ↔ s = 14) := by
  unfold kmg9
  (repeat' split) <;> omega
set_option maxHeartbeats 4000000 in
set_option maxRecDepth 100000 in
theorem j_faultOf0_lp {G : kG} {d : Nat} {h : Nat → Option kC} {n : Nat} {q : Nat → Int} {F : Nat → Nat → Int} {T : Nat → Int} {c : Int} (hq : q 6 = c) (c0 : 0 ≤ c ∧ c ≤ 60) (hT : ∀ j, j < 60 → F 103 j = T j) (hF : ∀ j, j < 60 → 0 ≤ T j ∧ T j ≤ 126)  : ∀ (f : Nat) (i : Nat) (z s9 : Int), z = (i : Int) → z ≤ c → c - z ≤ f → s9 = krun T 0 i → kfs T 0 i = -1 → s9 ≠ -1 → kE G mX10_faultOf (d + 3) 0 0 4 [some (.ref (gB G + 97)), some (.int (jI 0)), some (.int (jI (kmr s9))), some (.int (jI z))] [] (kmh G h q F) n (kre (some (.int (jI (kfault T c 0)))) (kmh G h q F) n) := by
  intro f
  induction f with
  | zero =>
    intro i z s9 g1 g2 g3 g4 g5 g6
    have q9 := krun_r T i
    have e10 : (if (0 : Int) = 0 then (0 : Int) else 10) = 0 := rfl
    rw [← g4] at q9
    have q4 := kmr_in (s := s9) (by omega)
    refine e_iload_n rfl dX10_faultOf_4 ?_
    refine e_aload_n rfl dX10_faultOf_5 ?_
    refine e_getf fdX10_107 dX10_faultOf_6 kmh_97 rfl ?_
    rw [hq]
    refine e_icmp_ge (tgt := 52) dX10_faultOf_9 (by decide) (by first | assumption | (unfold inI at *; omega)) (by first | assumption | (unfold inI at *; omega)) (fun c9 => ?_) (fun c9 => ?_)
    · refine e_iload_n rfl dX10_faultOf_52 ?_
      refine e_if_ne (tgt := 68) dX10_faultOf_53 (by decide) (by first | assumption | (unfold inI at *; omega)) (fun c53 => ?_) (fun c53 => ?_)
      · exact absurd c53 (by omega)
      · refine e_iload_n rfl dX10_faultOf_56 ?_
        refine e_bipush (by decide) dX10_faultOf_57 ?_
        refine e_icmp_eq (tgt := 78) dX10_faultOf_59 (by decide) (by first | assumption | (unfold inI at *; omega)) (by first | assumption | (unfold inI at *; omega)) (fun c59 => ?_) (fun c59 => ?_)
        · refine e_bipush (by decide) dX10_faultOf_78 ?_
          refine e_goto (tgt := 87) dX10_faultOf_80 (by decide) ?_
          refine e_ireturn dX10_faultOf_87 rfl rfl ?_
          exact k_faultOf_end (F := T) (i := i) (s9 := s9) (how := 0) rfl (by omega) (by rw [e10]; exact g4) (by rw [e10]; exact g5) (by first | rw [if_pos (by omega)] | rw [if_neg (by omega)])
        · refine e_iload_n rfl dX10_faultOf_62 ?_
          refine e_bipush (by decide) dX10_faultOf_63 ?_
          refine e_icmp_eq (tgt := 78) dX10_faultOf_65 (by decide) (by first | assumption | (unfold inI at *; omega)) (by first | assumption | (unfold inI at *; omega)) (fun c65 => ?_) (fun c65 => ?_)
          · refine e_bipush (by decide) dX10_faultOf_78 ?_
            refine e_goto (tgt := 87) dX10_faultOf_80 (by decide) ?_
            refine e_ireturn dX10_faultOf_87 rfl rfl ?_
            exact k_faultOf_end (F := T) (i := i) (s9 := s9) (how := 0) rfl (by omega) (by rw [e10]; exact g4) (by rw [e10]; exact g5) (by first | rw [if_pos (by omega)] | rw [if_neg (by omega)])
          · refine e_iload_n rfl dX10_faultOf_68 ?_
            refine e_iconst dX10_faultOf_69 ?_
            refine e_icmp_ne (tgt := 83) dX10_faultOf_70 (by decide) (by first | assumption | (unfold inI at *; omega)) (by first | assumption | (unfold inI at *; omega)) (fun c70 => ?_) (fun c70 => ?_)
            · refine e_aload_n rfl dX10_faultOf_83 ?_
              refine e_getf fdX10_107 dX10_faultOf_84 kmh_97 rfl ?_
              rw [hq]
              refine e_ireturn dX10_faultOf_87 rfl rfl ?_
              exact k_faultOf_end (F := T) (i := i) (s9 := s9) (how := 0) rfl (by omega) (by rw [e10]; exact g4) (by rw [e10]; exact g5) (by first | rw [if_pos (by omega)] | rw [if_neg (by omega)])
            · exact absurd c70 (by omega)
    · exact absurd c9 (by omega)
  | succ f ih =>
    intro i z s9 g1 g2 g3 g4 g5 g6
    have q9 := krun_r T i
    have e10 : (if (0 : Int) = 0 then (0 : Int) else 10) = 0 := rfl
    rw [← g4] at q9
    have q4 := kmr_in (s := s9) (by omega)
    have q8 := hF i
    subst g1
    refine e_iload_n rfl dX10_faultOf_4 ?_
    refine e_aload_n rfl dX10_faultOf_5 ?_
    refine e_getf fdX10_107 dX10_faultOf_6 kmh_97 rfl ?_
    rw [hq]
    refine e_icmp_ge (tgt := 52) dX10_faultOf_9 (by decide) (by first | assumption | (unfold inI at *; omega)) (by first | assumption | (unfold inI at *; omega)) (fun c9 => ?_) (fun c9 => ?_)
    · refine e_iload_n rfl dX10_faultOf_52 ?_
      refine e_if_ne (tgt := 68) dX10_faultOf_53 (by decide) (by first | assumption | (unfold inI at *; omega)) (fun c53 => ?_) (fun c53 => ?_)
      · exact absurd c53 (by omega)
      · refine e_iload_n rfl dX10_faultOf_56 ?_
        refine e_bipush (by decide) dX10_faultOf_57 ?_
        refine e_icmp_eq (tgt := 78) dX10_faultOf_59 (by decide) (by first | assumption | (unfold inI at *; omega)) (by first | assumption | (unfold inI at *; omega)) (fun c59 => ?_) (fun c59 => ?_)
        · refine e_bipush (by decide) dX10_faultOf_78 ?_
          refine e_goto (tgt := 87) dX10_faultOf_80 (by decide) ?_
          refine e_ireturn dX10_faultOf_87 rfl rfl ?_
          exact k_faultOf_end (F := T) (i := i) (s9 := s9) (how := 0) rfl (by omega) (by rw [e10]; exact g4) (by rw [e10]; exact g5) (by first | rw [if_pos (by omega)] | rw [if_neg (by omega)])
        · refine e_iload_n rfl dX10_faultOf_62 ?_
          refine e_bipush (by decide) dX10_faultOf_63 ?_
          refine e_icmp_eq (tgt := 78) dX10_faultOf_65 (by decide) (by first | assumption | (unfold inI at *; omega)) (by first | assumption | (unfold inI at *; omega)) (fun c65 => ?_) (fun c65 => ?_)
          · refine e_bipush (by decide) dX10_faultOf_78 ?_
            refine e_goto (tgt := 87) dX10_faultOf_80 (by decide) ?_
            refine e_ireturn dX10_faultOf_87 rfl rfl ?_
            exact k_faultOf_end (F := T) (i := i) (s9 := s9) (how := 0) rfl (by omega) (by rw [e10]; exact g4) (by rw [e10]; exact g5) (by first | rw [if_pos (by omega)] | rw [if_neg (by omega)])
          · refine e_iload_n rfl dX10_faultOf_68 ?_
            refine e_iconst dX10_faultOf_69 ?_
            refine e_icmp_ne (tgt := 83) dX10_faultOf_70 (by decide) (by first | assumption | (unfold inI at *; omega)) (by first | assumption | (unfold inI at *; omega)) (fun c70 => ?_) (fun c70 => ?_)
            · refine e_aload_n rfl dX10_faultOf_83 ?_
              refine e_getf fdX10_107 dX10_faultOf_84 kmh_97 rfl ?_
              rw [hq]
              refine e_ireturn dX10_faultOf_87 rfl rfl ?_
              exact k_faultOf_end (F := T) (i := i) (s9 := s9) (how := 0) rfl (by omega) (by rw [e10]; exact g4) (by rw [e10]; exact g5) (by first | rw [if_pos (by omega)] | rw [if_neg (by omega)])
            · exact absurd c70 (by omega)
    · refine e_iload_n rfl dX10_faultOf_12 ?_
      refine e_if_ne (tgt := 29) dX10_faultOf_13 (by decide) (by first | assumption | (unfold inI at *; omega)) (fun c13 => ?_) (fun c13 => ?_)
      · exact absurd c13 (by omega)
      · refine e_iload_n rfl dX10_faultOf_16 ?_
        refine e_aload_n rfl dX10_faultOf_17 ?_
        refine e_getf fdX10_25 dX10_faultOf_18 kmh_97 rfl ?_
        refine e_iload_n rfl dX10_faultOf_21 ?_
        refine e_mld (by first | exact ka98 | exact ka99 | exact ka100 | exact ka101 | exact ka102 | exact ka103 | exact ka104 | exact ka105 | exact ka106 | exact ka107 | exact ka108 | exact ka109 | exact ka110 | exact ka111 | exact ka112 | exact ka113) dX10_faultOf_22 (by omega) (by omega) ?_
        rw [Int.toNat_natCast, hT i (by omega)]
        have q7 := q8 (by omega)
        refine eS2 mtX10_ruleStep msX10_ruleStep lkX10_118 dX10_faultOf_23 rfl rfl (j_ruleStep (by omega) (by unfold inI; omega)) ?_
        dsimp only [Option.toList, List.cons_append, List.nil_append]
        have q6 := kaf_r (s := s9) (x := T i) (show _ from (by omega : 0 ≤ s9 ∧ s9 ≤ 9))
        have q5 : krun T 0 (i + 1) = kaf s9 (T i) := by show (if _ then _ else _) = _; rw [← g4, if_neg g6]
        have q3 := kmr_in (s := kaf s9 (T i)) (by omega)
        refine e_goto (tgt := 39) dX10_faultOf_26 (by decide) ?_
        refine e_istore_n dX10_faultOf_39 rfl rfl ?_
        dsimp only [List.set]
        refine e_iload_n rfl dX10_faultOf_40 ?_
        refine e_if_ge (tgt := 46) dX10_faultOf_41 (by decide) (by first | assumption | (unfold inI at *; omega)) (fun c41 => ?_) (fun c41 => ?_)
        · refine e_iinc dX10_faultOf_46 rfl rfl ?_
          dsimp only [List.set]
          refine e_goto (tgt := 4) dX10_faultOf_49 (by decide) ?_
          exact ih (i + 1) _ _ (by omega) (by omega) (by omega) q5.symm (by show (if _ then _ else _) = _; rw [if_neg (by omega), if_neg (by rw [q5]; omega)]) (by omega)
        · refine e_iload_n rfl dX10_faultOf_44 ?_
          refine e_ireturn dX10_faultOf_45 rfl rfl ?_
          exact ⟨k_faultOf_mid (F := T) (i := i) (how := 0) (by omega) (by rw [e10]; exact g5) (by rw [e10, q5]; omega), rfl, rfl⟩
set_option maxHeartbeats 4000000 in
set_option maxRecDepth 100000 in
theorem j_faultOf0 {G : kG} {d : Nat} {h : Nat → Option kC} {n : Nat} {q : Nat → Int} {F : Nat → Nat → Int} {T : Nat → Int} {c : Int} (hq : q 6 = c) (c0 : 0 ≤ c ∧ c ≤ 60) (hT : ∀ j, j < 60 → F 103 j = T j) (hF : ∀ j, j < 60 → 0 ≤ T j ∧ T j ≤ 126)  : kCall G mX10_faultOf (d + 3) 0 0 [.ref (gB G + 97), .int (jI 0)] (kmh G h q F) n (kre (some (.int (jI (kfault T c 0)))) (kmh G h q F) n) := by
  show kE G mX10_faultOf (d + 3) 0 0 0 [some (.ref (gB G + 97)), some (.int (jI 0)), none, none] [] (kmh G h q F) n _
  refine e_iconst dX10_faultOf_0 ?_
  refine e_istore_n dX10_faultOf_1 rfl rfl ?_
  dsimp only [List.set]
  refine e_iconst dX10_faultOf_2 ?_
  refine e_istore_n dX10_faultOf_3 rfl rfl ?_
  dsimp only [List.set]
  exact j_faultOf0_lp hq c0 hT hF 100 0 0 0 (by omega) (by omega) (by omega) rfl rfl (by omega)
set_option maxHeartbeats 4000000 in
set_option maxRecDepth 100000 in
theorem j_faultOf1_lp {G : kG} {d : Nat} {h : Nat → Option kC} {n : Nat} {q : Nat → Int} {F : Nat → Nat → Int} {T : Nat → Int} {c : Int} (hq : q 6 = c) (c0 : 0 ≤ c ∧ c ≤ 60) (hT : ∀ j, j < 60 → F 103 j = T j) (hF : ∀ j, j < 60 → 0 ≤ T j ∧ T j ≤ 126)  : ∀ (f : Nat) (i : Nat) (z s9 : Int), z = (i : Int) → z ≤ c → c - z ≤ f → s9 = krun T 10 i → kfs T 10 i = -1 → s9 ≠ -1 → kE G mX10_faultOf (d + 3) 0 0 4 [some (.ref (gB G + 97)), some (.int (jI 1)), some (.int (jI (kmg9 s9))), some (.int (jI z))] [] (kmh G h q F) n (kre (some (.int (jI (kfault T c 1)))) (kmh G h q F) n) := by
  intro f
  induction f with
  | zero =>
    intro i z s9 g1 g2 g3 g4 g5 g6
    have q9 := krun_g T i
    have e10 : (if (1 : Int) = 0 then (0 : Int) else 10) = 10 := rfl
    rw [← g4] at q9
    have q4 := kmg9_in (s := s9) (by omega)
    refine e_iload_n rfl dX10_faultOf_4 ?_
    refine e_aload_n rfl dX10_faultOf_5 ?_
    refine e_getf fdX10_107 dX10_faultOf_6 kmh_97 rfl ?_
    rw [hq]
    refine e_icmp_ge (tgt := 52) dX10_faultOf_9 (by decide) (by first | assumption | (unfold inI at *; omega)) (by first | assumption | (unfold inI at *; omega)) (fun c9 => ?_) (fun c9 => ?_)
    · refine e_iload_n rfl dX10_faultOf_52 ?_
      refine e_if_ne (tgt := 68) dX10_faultOf_53 (by decide) (by first | assumption | (unfold inI at *; omega)) (fun c53 => ?_) (fun c53 => ?_)
      · refine e_iload_n rfl dX10_faultOf_68 ?_
        refine e_iconst dX10_faultOf_69 ?_
        refine e_icmp_ne (tgt := 83) dX10_faultOf_70 (by decide) (by first | assumption | (unfold inI at *; omega)) (by first | assumption | (unfold inI at *; omega)) (fun c70 => ?_) (fun c70 => ?_)
        · exact absurd c70 (by omega)
        · refine e_iload_n rfl dX10_faultOf_73 ?_
          refine e_iconst dX10_faultOf_74 ?_
          refine e_icmp_ne (tgt := 83) dX10_faultOf_75 (by decide) (by first | assumption | (unfold inI at *; omega)) (by first | assumption | (unfold inI at *; omega)) (fun c75 => ?_) (fun c75 => ?_)
          · refine e_aload_n rfl dX10_faultOf_83 ?_
            refine e_getf fdX10_107 dX10_faultOf_84 kmh_97 rfl ?_
            rw [hq]
            refine e_ireturn dX10_faultOf_87 rfl rfl ?_
            exact k_faultOf_end (F := T) (i := i) (s9 := s9) (how := 1) rfl (by omega) (by rw [e10]; exact g4) (by rw [e10]; exact g5) (by first | rw [if_pos (by omega)] | rw [if_neg (by omega)])
          · refine e_bipush (by decide) dX10_faultOf_78 ?_
            refine e_goto (tgt := 87) dX10_faultOf_80 (by decide) ?_
            refine e_ireturn dX10_faultOf_87 rfl rfl ?_
            exact k_faultOf_end (F := T) (i := i) (s9 := s9) (how := 1) rfl (by omega) (by rw [e10]; exact g4) (by rw [e10]; exact g5) (by first | rw [if_pos (by omega)] | rw [if_neg (by omega)])
      · exact absurd c53 (by omega)
    · exact absurd c9 (by omega)
  | succ f ih =>
    intro i z s9 g1 g2 g3 g4 g5 g6
    have q9 := krun_g T i
    have e10 : (if (1 : Int) = 0 then (0 : Int) else 10) = 10 := rfl
    rw [← g4] at q9
    have q4 := kmg9_in (s := s9) (by omega)
    have q8 := hF i
    subst g1
    refine e_iload_n rfl dX10_faultOf_4 ?_
    refine e_aload_n rfl dX10_faultOf_5 ?_
    refine e_getf fdX10_107 dX10_faultOf_6 kmh_97 rfl ?_
    rw [hq]
    refine e_icmp_ge (tgt := 52) dX10_faultOf_9 (by decide) (by first | assumption | (unfold inI at *; omega)) (by first | assumption | (unfold inI at *; omega)) (fun c9 => ?_) (fun c9 => ?_)
    · refine e_iload_n rfl dX10_faultOf_52 ?_
      refine e_if_ne (tgt := 68) dX10_faultOf_53 (by decide) (by first | assumption | (unfold inI at *; omega)) (fun c53 => ?_) (fun c53 => ?_)
      · refine e_iload_n rfl dX10_faultOf_68 ?_
        refine e_iconst dX10_faultOf_69 ?_
        refine e_icmp_ne (tgt := 83) dX10_faultOf_70 (by decide) (by first | assumption | (unfold inI at *; omega)) (by first | assumption | (unfold inI at *; omega)) (fun c70 => ?_) (fun c70 => ?_)
        · exact absurd c70 (by omega)
        · refine e_iload_n rfl dX10_faultOf_73 ?_
          refine e_iconst dX10_faultOf_74 ?_
          refine e_icmp_ne (tgt := 83) dX10_faultOf_75 (by decide) (by first | assumption | (unfold inI at *; omega)) (by first | assumption | (unfold inI at *; omega)) (fun c75 => ?_) (fun c75 => ?_)
          · refine e_aload_n rfl dX10_faultOf_83 ?_
            refine e_getf fdX10_107 dX10_faultOf_84 kmh_97 rfl ?_
            rw [hq]
            refine e_ireturn dX10_faultOf_87 rfl rfl ?_
            exact k_faultOf_end (F := T) (i := i) (s9 := s9) (how := 1) rfl (by omega) (by rw [e10]; exact g4) (by rw [e10]; exact g5) (by first | rw [if_pos (by omega)] | rw [if_neg (by omega)])
          · refine e_bipush (by decide) dX10_faultOf_78 ?_
            refine e_goto (tgt := 87) dX10_faultOf_80 (by decide) ?_
            refine e_ireturn dX10_faultOf_87 rfl rfl ?_
            exact k_faultOf_end (F := T) (i := i) (s9 := s9) (how := 1) rfl (by omega) (by rw [e10]; exact g4) (by rw [e10]; exact g5) (by first | rw [if_pos (by omega)] | rw [if_neg (by omega)])
      · exact absurd c53 (by omega)
    · refine e_iload_n rfl dX10_faultOf_12 ?_
      refine e_if_ne (tgt := 29) dX10_faultOf_13 (by decide) (by first | assumption | (unfold inI at *; omega)) (fun c13 => ?_) (fun c13 => ?_)
      · refine e_iload_n rfl dX10_faultOf_29 ?_
        refine e_aload_n rfl dX10_faultOf_30 ?_
        refine e_getf fdX10_25 dX10_faultOf_31 kmh_97 rfl ?_
        refine e_iload_n rfl dX10_faultOf_34 ?_
        refine e_mld (by first | exact ka98 | exact ka99 | exact ka100 | exact ka101 | exact ka102 | exact ka103 | exact ka104 | exact ka105 | exact ka106 | exact ka107 | exact ka108 | exact ka109 | exact ka110 | exact ka111 | exact ka112 | exact ka113) dX10_faultOf_35 (by omega) (by omega) ?_
        rw [Int.toNat_natCast, hT i (by omega)]
        have q7 := q8 (by omega)
        refine eS2 mtX10_growthStep msX10_growthStep lkX10_121 dX10_faultOf_36 rfl rfl (j_growthStep (by omega) (by unfold inI; omega)) ?_
        dsimp only [Option.toList, List.cons_append, List.nil_append]
        have q6 := kaf_g (s := s9) (x := T i) (show _ from (by omega : 10 ≤ s9 ∧ s9 ≤ 14))
        have q5 : krun T 10 (i + 1) = kaf s9 (T i) := by show (if _ then _ else _) = _; rw [← g4, if_neg g6]
        have q3 := kmg9_in (s := kaf s9 (T i)) (by omega)
        refine e_istore_n dX10_faultOf_39 rfl rfl ?_
        dsimp only [List.set]
        refine e_iload_n rfl dX10_faultOf_40 ?_
        refine e_if_ge (tgt := 46) dX10_faultOf_41 (by decide) (by first | assumption | (unfold inI at *; omega)) (fun c41 => ?_) (fun c41 => ?_)
        · refine e_iinc dX10_faultOf_46 rfl rfl ?_
          dsimp only [List.set]
          refine e_goto (tgt := 4) dX10_faultOf_49 (by decide) ?_
          exact ih (i + 1) _ _ (by omega) (by omega) (by omega) q5.symm (by show (if _ then _ else _) = _; rw [if_neg (by omega), if_neg (by rw [q5]; omega)]) (by omega)
        · refine e_iload_n rfl dX10_faultOf_44 ?_
          refine e_ireturn dX10_faultOf_45 rfl rfl ?_
          exact ⟨k_faultOf_mid (F := T) (i := i) (how := 1) (by omega) (by rw [e10]; exact g5) (by rw [e10, q5]; omega), rfl, rfl⟩
      · exact absurd c13 (by omega)
set_option maxHeartbeats 4000000 in
set_option maxRecDepth 100000 in
theorem j_faultOf1 {G : kG} {d : Nat} {h : Nat → Option kC} {n : Nat} {q : Nat → Int} {F : Nat → Nat → Int} {T : Nat → Int} {c : Int} (hq : q 6 = c) (c0 : 0 ≤ c ∧ c ≤ 60) (hT : ∀ j, j < 60 → F 103 j = T j) (hF : ∀ j, j < 60 → 0 ≤ T j ∧ T j ≤ 126)  : kCall G mX10_faultOf (d + 3) 0 0 [.ref (gB G + 97), .int (jI 1)] (kmh G h q F) n (kre (some (.int (jI (kfault T c 1)))) (kmh G h q F) n) := by
  show kE G mX10_faultOf (d + 3) 0 0 0 [some (.ref (gB G + 97)), some (.int (jI 1)), none, none] [] (kmh G h q F) n _
  refine e_iconst dX10_faultOf_0 ?_
  refine e_istore_n dX10_faultOf_1 rfl rfl ?_
  dsimp only [List.set]
  refine e_iconst dX10_faultOf_2 ?_
  refine e_istore_n dX10_faultOf_3 rfl rfl ?_
  dsimp only [List.set]
  exact j_faultOf1_lp hq c0 hT hF 100 0 0 10 (by omega) (by omega) (by omega) rfl rfl (by omega)
