/-! FRACTIONS in lowest terms -/
def kgc (a b : Int) : Int := (Nat.gcd a.toNat b.toNat : Nat)
theorem kgc_step {x y : Int} (hx : 0 ≤ x) (hy : 0 ≤ y) : kgc x y = kgc y (x % y) := by
  unfold kgc
  rw [Int.toNat_emod hx hy, Nat.gcd_comm, Nat.gcd_rec, Nat.gcd_comm]
theorem kgc_0 {x : Int} (hx : 0 ≤ x) : kgc x 0 = x := by
  unfold kgc
  rw [show (0 : Int).toNat = 0 from rfl, Nat.gcd_zero_right]
  omega
theorem kgc_half {x y : Int} (hy : 0 < y) (hyx : y ≤ x) {f : Nat} (h : x * y < 2 ^ (f + 1)) : y * (x % y) < 2 ^ f := by
  have h1 := Int.emod_nonneg x (show y ≠ 0 by omega)
  have h2 := Int.emod_lt_of_pos x hy
  have h3 := Int.emod_add_mul_ediv x y
  have h4 : 1 ≤ x / y := (Int.le_ediv_iff_mul_le hy).mpr (by omega)
  have h5 : y * 1 ≤ y * (x / y) := Int.mul_le_mul_of_nonneg_left h4 (by omega)
  have h6 : 2 * (x % y) ≤ x := by omega
  have h7 : y * (2 * (x % y)) ≤ y * x := Int.mul_le_mul_of_nonneg_left h6 (by omega)
  have h8 : (2 : Int) ^ (f + 1) = 2 * 2 ^ f := by rw [Int.pow_succ, Int.mul_comm]
  have h9 : y * (2 * (x % y)) = 2 * (y * (x % y)) := by rw [← Int.mul_assoc, Int.mul_comm y 2, Int.mul_assoc]
  rw [Int.mul_comm x y] at h
  omega
/-- part 0 the upper, 1 the lower number -/
def ktl (u l p : Int) : Int := if u = 0 ∨ l ≤ 0 then (if p = 0 then 0 else 1) else (if p = 0 then u else l).tdiv (kgc (kab u) l)
theorem kgc_pos {a b : Int} (hb : 0 < b) : 0 < kgc a b := by
  unfold kgc
  have := Nat.gcd_pos_of_pos_right a.toNat (show 0 < b.toNat by omega)
  omega
theorem kgc_le {a b : Int} (hb : 0 < b) : kgc a b ≤ b := by
  unfold kgc
  have := Nat.gcd_le_right a.toNat (show 0 < b.toNat by omega)
  omega
set_option maxHeartbeats 4000000 in
set_option maxRecDepth 100000 in
theorem k_cd_lp {G : kG} {d : Nat} {h : Nat → Option kC} {n : Nat} {a b : Int} (a0 : 0 ≤ a) (a1 : a < 4611686018427387904) (b0 : 0 < b) (b1 : b < 4611686018427387904)  : ∀ (f : Nat) (x y s : Int) (e9 : Option Value), 0 < x ∧ x < 4611686018427387904 → 0 ≤ y ∧ y ≤ x → x * y < 2 ^ f → 0 ≤ s ∧ s + f ≤ 190 → kgc x y = kgc a b → kE G mX9_commonDivisor (d + 1) 0 0 9 [some (.long (jL a)), none, some (.long (jL b)), none, some (.long (jL x)), none, some (.long (jL y)), none, some (.int (jI s)), e9, none] [] h n (kre (some (.long (jL (kgc a b)))) h n) := by
  intro f
  induction f with
  | zero =>
    intro x y s e9 g1 g2 g3 g4 g5
    have q9 : y = 0 := by
      by_cases z : y = 0
      · exact z
      · have z2 : 1 * 1 ≤ x * y := Int.mul_le_mul (by omega) (by omega) (by omega) (by omega)
        have z3 : (2 : Int) ^ 0 = 1 := rfl
        omega
    have g6 := g5
    refine e_iload rfl dX9_commonDivisor_9 ?_
    refine e_sipush (by decide) dX9_commonDivisor_11 ?_
    refine e_icmp_ge (tgt := 45) dX9_commonDivisor_14 (by decide) (by first | assumption | (unfold inI at *; omega)) (by first | assumption | (unfold inI at *; omega)) (fun c14 => ?_) (fun c14 => ?_)
    · exact absurd c14 (by omega)
    · refine e_lload rfl dX9_commonDivisor_17 ?_
      refine e_lconst (z := 0) (by decide) dX9_commonDivisor_19 ?_
      refine e_lcmp_eq (tgt := 45) dX9_commonDivisor_20 dX9_commonDivisor_21 (by decide) (by first | assumption | (unfold inL at *; omega)) (by first | assumption | (unfold inL at *; omega)) (fun c20 => ?_) (fun c20 => ?_)
      · refine e_lconst (z := 1) (by decide) dX9_commonDivisor_45 ?_
        refine e_lload rfl dX9_commonDivisor_46 ?_
        refine e_mmaxl (by first | assumption | (unfold inL at *; omega)) (by first | assumption | (unfold inL at *; omega)) lkX9_311 dX9_commonDivisor_48 rfl ?_
        refine e_lreturn dX9_commonDivisor_51 rfl ?_
        exact ⟨by rw [show kmaxl 1 x = x by unfold kmaxl; split <;> omega, ← g6, show y = 0 by omega, kgc_0 (by omega)], rfl, rfl⟩
      · exact absurd c20 (by omega)
  | succ f ih =>
    intro x y s e9 g1 g2 g3 g4 g5
    have g6 := g5
    refine e_iload rfl dX9_commonDivisor_9 ?_
    refine e_sipush (by decide) dX9_commonDivisor_11 ?_
    refine e_icmp_ge (tgt := 45) dX9_commonDivisor_14 (by decide) (by first | assumption | (unfold inI at *; omega)) (by first | assumption | (unfold inI at *; omega)) (fun c14 => ?_) (fun c14 => ?_)
    · exact absurd c14 (by omega)
    · refine e_lload rfl dX9_commonDivisor_17 ?_
      refine e_lconst (z := 0) (by decide) dX9_commonDivisor_19 ?_
      refine e_lcmp_eq (tgt := 45) dX9_commonDivisor_20 dX9_commonDivisor_21 (by decide) (by first | assumption | (unfold inL at *; omega)) (by first | assumption | (unfold inL at *; omega)) (fun c20 => ?_) (fun c20 => ?_)
      · refine e_lconst (z := 1) (by decide) dX9_commonDivisor_45 ?_
        refine e_lload rfl dX9_commonDivisor_46 ?_
        refine e_mmaxl (by first | assumption | (unfold inL at *; omega)) (by first | assumption | (unfold inL at *; omega)) lkX9_311 dX9_commonDivisor_48 rfl ?_
        refine e_lreturn dX9_commonDivisor_51 rfl ?_
        exact ⟨by rw [show kmaxl 1 x = x by unfold kmaxl; split <;> omega, ← g6, show y = 0 by omega, kgc_0 (by omega)], rfl, rfl⟩
      · refine e_lload rfl dX9_commonDivisor_24 ?_
        refine e_lload rfl dX9_commonDivisor_26 ?_
        refine e_lremN (by first | assumption | (unfold inL at *; omega)) (by first | assumption | (unfold inL at *; omega)) (by omega) (by omega) dX9_commonDivisor_28 ?_
        have q8 := Int.emod_nonneg x (show y ≠ 0 by omega)
        have q7 := Int.emod_lt_of_pos x (show 0 < y by omega)
        refine e_lstore dX9_commonDivisor_29 rfl rfl ?_
        dsimp only [List.set]
        refine e_lload rfl dX9_commonDivisor_31 ?_
        refine e_lstore dX9_commonDivisor_33 rfl rfl ?_
        dsimp only [List.set]
        refine e_lload rfl dX9_commonDivisor_35 ?_
        refine e_lstore dX9_commonDivisor_37 rfl rfl ?_
        dsimp only [List.set]
        refine e_iinc dX9_commonDivisor_39 rfl rfl ?_
        dsimp only [List.set]
        refine e_goto (tgt := 9) dX9_commonDivisor_42 (by decide) ?_
        exact ih _ _ _ _ (by omega) (by omega) (kgc_half (by omega) (by omega) g3) (by omega) (by rw [← kgc_step (by omega) (by omega)]; exact g5)
set_option maxHeartbeats 4000000 in
set_option maxRecDepth 100000 in
theorem k_cd {G : kG} {d : Nat} {h : Nat → Option kC} {n : Nat} {a b : Int} (a0 : 0 ≤ a) (a1 : a < 4611686018427387904) (b0 : 0 < b) (b1 : b < 4611686018427387904)  : kCall G mX9_commonDivisor (d + 1) 0 0 [.long (jL a), .long (jL b)] h n (kre (some (.long (jL (kgc a b)))) h n) := by
  show kE G mX9_commonDivisor (d + 1) 0 0 0 [some (.long (jL a)), none, some (.long (jL b)), none, none, none, none, none, none, none, none] [] h n _
  refine e_lload_n rfl dX9_commonDivisor_0 ?_
  refine e_lstore dX9_commonDivisor_1 rfl rfl ?_
  dsimp only [List.set]
  refine e_lload_n rfl dX9_commonDivisor_3 ?_
  refine e_lstore dX9_commonDivisor_4 rfl rfl ?_
  dsimp only [List.set]
  refine e_iconst dX9_commonDivisor_6 ?_
  refine e_istore dX9_commonDivisor_7 rfl rfl ?_
  dsimp only [List.set]
  refine e_iload rfl dX9_commonDivisor_9 ?_
  refine e_sipush (by decide) dX9_commonDivisor_11 ?_
  refine e_icmp_ge (tgt := 45) dX9_commonDivisor_14 (by decide) (by first | assumption | (unfold inI at *; omega)) (by first | assumption | (unfold inI at *; omega)) (fun c14 => ?_) (fun c14 => ?_)
  · exact absurd c14 (by omega)
  · refine e_lload rfl dX9_commonDivisor_17 ?_
    refine e_lconst (z := 0) (by decide) dX9_commonDivisor_19 ?_
    refine e_lcmp_eq (tgt := 45) dX9_commonDivisor_20 dX9_commonDivisor_21 (by decide) (by first | assumption | (unfold inL at *; omega)) (by first | assumption | (unfold inL at *; omega)) (fun c20 => ?_) (fun c20 => ?_)
    · exact absurd c20 (by omega)
    · refine e_lload rfl dX9_commonDivisor_24 ?_
      refine e_lload rfl dX9_commonDivisor_26 ?_
      refine e_lremN (by first | assumption | (unfold inL at *; omega)) (by first | assumption | (unfold inL at *; omega)) (by omega) (by omega) dX9_commonDivisor_28 ?_
      have q8 := Int.emod_nonneg a (show b ≠ 0 by omega)
      have q7 := Int.emod_lt_of_pos a b0
      refine e_lstore dX9_commonDivisor_29 rfl rfl ?_
      dsimp only [List.set]
      refine e_lload rfl dX9_commonDivisor_31 ?_
      refine e_lstore dX9_commonDivisor_33 rfl rfl ?_
      dsimp only [List.set]
      refine e_lload rfl dX9_commonDivisor_35 ?_
      refine e_lstore dX9_commonDivisor_37 rfl rfl ?_
      dsimp only [List.set]
      refine e_iinc dX9_commonDivisor_39 rfl rfl ?_
      dsimp only [List.set]
      refine e_goto (tgt := 9) dX9_commonDivisor_42 (by decide) ?_
      have z3 : b * (a % b) < b * b := Int.mul_lt_mul_of_pos_left q7 b0
      have z4 : b * b ≤ 4611686018427387904 * 4611686018427387904 := Int.mul_le_mul (by omega) (by omega) (by omega) (by omega)
      have z2 : (4611686018427387904 : Int) * 4611686018427387904 = 2 ^ 124 := by decide
      exact k_cd_lp a0 a1 b0 b1 124 _ _ _ _ (by omega) (by omega) (by omega) (by omega) (kgc_step a0 (by omega)).symm
set_option maxHeartbeats 4000000 in
set_option maxRecDepth 100000 in
theorem k_tell {G : kG} {d : Nat} {h : Nat → Option kC} {n : Nat} {u l p : Int} (u0 : -4611686018427387904 < u) (u1 : u < 4611686018427387904) (l0 : 0 ≤ l) (l1 : l < 4611686018427387904) (p0 : 0 ≤ p) (p1 : p ≤ 1) : kCall G mX9_tell (d + 2) 0 0 [.long (jL u), .long (jL l), .int (jI p)] h n (kre (some (.long (jL (ktl u l p)))) h n) := by
  show kE G mX9_tell (d + 2) 0 0 0 [some (.long (jL u)), none, some (.long (jL l)), none, some (.int (jI p))] [] h n _
  refine e_lload_n rfl dX9_tell_0 ?_
  refine e_lconst (z := 0) (by decide) dX9_tell_1 ?_
  refine e_lcmp_eq (tgt := 12) dX9_tell_2 dX9_tell_3 (by decide) (by first | assumption | (unfold inL at *; omega)) (by first | assumption | (unfold inL at *; omega)) (fun c2 => ?_) (fun c2 => ?_)
  · refine e_iload rfl dX9_tell_12 ?_
    refine e_if_ne (tgt := 21) dX9_tell_14 (by decide) (by first | assumption | (unfold inI at *; omega)) (fun c14 => ?_) (fun c14 => ?_)
    · refine e_lconst (z := 1) (by decide) dX9_tell_21 ?_
      refine e_lreturn dX9_tell_22 rfl ?_
      refine ⟨?_, rfl, rfl⟩
      unfold ktl
      first | rw [if_pos (by omega)] | rw [if_neg (by omega)]
      first | rw [if_pos (by omega)] | rw [if_neg (by omega)]
    · refine e_lconst (z := 0) (by decide) dX9_tell_17 ?_
      refine e_goto (tgt := 22) dX9_tell_18 (by decide) ?_
      refine e_lreturn dX9_tell_22 rfl ?_
      refine ⟨?_, rfl, rfl⟩
      unfold ktl
      first | rw [if_pos (by omega)] | rw [if_neg (by omega)]
      first | rw [if_pos (by omega)] | rw [if_neg (by omega)]
  · refine e_lload_n rfl dX9_tell_6 ?_
    refine e_lconst (z := 0) (by decide) dX9_tell_7 ?_
    refine e_lcmp_gt (tgt := 23) dX9_tell_8 dX9_tell_9 (by decide) (by first | assumption | (unfold inL at *; omega)) (by first | assumption | (unfold inL at *; omega)) (fun c8 => ?_) (fun c8 => ?_)
    · refine e_iload rfl dX9_tell_23 ?_
      refine e_if_ne (tgt := 32) dX9_tell_25 (by decide) (by first | assumption | (unfold inI at *; omega)) (fun c25 => ?_) (fun c25 => ?_)
      · refine e_lload_n rfl dX9_tell_32 ?_
        refine e_lload_n rfl dX9_tell_33 ?_
        refine e_mabsl (by first | assumption | (unfold inL at *; omega)) lkX9_304 dX9_tell_34 rfl ?_
        refine e_lload_n rfl dX9_tell_37 ?_
        rw [k_kabs]
        have z9 : 0 ≤ kab u ∧ kab u < 4611686018427387904 := by unfold kab; split <;> omega
        refine eS2 mtX9_commonDivisor msX9_commonDivisor lkX9_307 dX9_tell_38 rfl rfl (k_cd z9.1 z9.2 (by omega) (by omega)) ?_
        dsimp only [Option.toList, List.cons_append, List.nil_append]
        refine e_ldiv (by first | assumption | (unfold inL at *; omega)) (by have := kgc_le (a := kab u) (show 0 < l by omega); have := kgc_pos (a := kab u) (show 0 < l by omega); unfold inL; omega) (kgc_pos (by omega)) dX9_tell_41 ?_
        refine e_lreturn dX9_tell_42 rfl ?_
        refine ⟨?_, rfl, rfl⟩
        unfold ktl
        first | rw [if_pos (by omega)] | rw [if_neg (by omega)]
        first | rw [if_pos (by omega)] | rw [if_neg (by omega)]
      · refine e_lload_n rfl dX9_tell_28 ?_
        refine e_goto (tgt := 33) dX9_tell_29 (by decide) ?_
        refine e_lload_n rfl dX9_tell_33 ?_
        refine e_mabsl (by first | assumption | (unfold inL at *; omega)) lkX9_304 dX9_tell_34 rfl ?_
        refine e_lload_n rfl dX9_tell_37 ?_
        rw [k_kabs]
        have z9 : 0 ≤ kab u ∧ kab u < 4611686018427387904 := by unfold kab; split <;> omega
        refine eS2 mtX9_commonDivisor msX9_commonDivisor lkX9_307 dX9_tell_38 rfl rfl (k_cd z9.1 z9.2 (by omega) (by omega)) ?_
        dsimp only [Option.toList, List.cons_append, List.nil_append]
        refine e_ldiv (by first | assumption | (unfold inL at *; omega)) (by have := kgc_le (a := kab u) (show 0 < l by omega); have := kgc_pos (a := kab u) (show 0 < l by omega); unfold inL; omega) (kgc_pos (by omega)) dX9_tell_41 ?_
        refine e_lreturn dX9_tell_42 rfl ?_
        refine ⟨?_, rfl, rfl⟩
        unfold ktl
        first | rw [if_pos (by omega)] | rw [if_neg (by omega)]
        first | rw [if_pos (by omega)] | rw [if_neg (by omega)]
    · refine e_iload rfl dX9_tell_12 ?_
      refine e_if_ne (tgt := 21) dX9_tell_14 (by decide) (by first | assumption | (unfold inI at *; omega)) (fun c14 => ?_) (fun c14 => ?_)
      · refine e_lconst (z := 1) (by decide) dX9_tell_21 ?_
        refine e_lreturn dX9_tell_22 rfl ?_
        refine ⟨?_, rfl, rfl⟩
        unfold ktl
        first | rw [if_pos (by omega)] | rw [if_neg (by omega)]
        first | rw [if_pos (by omega)] | rw [if_neg (by omega)]
      · refine e_lconst (z := 0) (by decide) dX9_tell_17 ?_
        refine e_goto (tgt := 22) dX9_tell_18 (by decide) ?_
        refine e_lreturn dX9_tell_22 rfl ?_
        refine ⟨?_, rfl, rfl⟩
        unfold ktl
        first | rw [if_pos (by omega)] | rw [if_neg (by omega)]
        first | rw [if_pos (by omega)] | rw [if_neg (by omega)]
/-! two SORTS: at i -/
def rSo (h : Nat → Option kC) (i : Nat) (s1 c1 s2 c2 : Int) : Prop := h i = some (kob 4 [.long (jL s1), .long (jL c1), .long (jL s2), .long (jL c2)])
def kg2 (x y g : Int) : Int := g * x + (100 - g) * y
def kgap (s1 c1 s2 c2 g j : Int) : Int := kg2 s1 s2 g * kg2 c1 c2 j - kg2 s1 s2 j * kg2 c1 c2 g
set_option maxHeartbeats 4000000 in
set_option maxRecDepth 100000 in
theorem k_ssum {G : kG} {d : Nat} {h : Nat → Option kC} {n : Nat} {i : Nat} {s1 c1 s2 c2 : Int} (r : rSo h i s1 c1 s2 c2) {g : Int} (g0 : 0 ≤ g) (g1 : g ≤ 100) : kCall G mX6_sum d 0 0 [.ref (gB G + i), .int (jI g)] h n (kre (some (.long (jL (kg2 s1 s2 g)))) h n) := by
  show kE G mX6_sum d 0 0 0 [some (.ref (gB G + i)), some (.int (jI g))] [] h n _
  unfold rSo at r
  refine e_iload_n rfl dX6_sum_0 ?_
  refine e_i2l (by first | assumption | (unfold inI at *; omega)) dX6_sum_1 ?_
  refine e_aload_n rfl dX6_sum_2 ?_
  refine e_getf fdX6_15 dX6_sum_3 (by first | assumption | exact kup_s | exact kup_n (by omega) (by first | assumption | exact kup_s | exact kup_n (by omega) (by first | assumption | exact kup_s | exact kup_n (by omega) (by assumption)))) rfl ?_
  refine e_lmul dX6_sum_6 ?_
  refine e_bipush (by decide) dX6_sum_7 ?_
  refine e_iload_n rfl dX6_sum_9 ?_
  refine e_isub dX6_sum_10 ?_
  refine e_i2l (by first | assumption | (unfold inI at *; omega)) dX6_sum_11 ?_
  refine e_aload_n rfl dX6_sum_12 ?_
  refine e_getf fdX6_27 dX6_sum_13 (by first | assumption | exact kup_s | exact kup_n (by omega) (by first | assumption | exact kup_s | exact kup_n (by omega) (by first | assumption | exact kup_s | exact kup_n (by omega) (by assumption)))) rfl ?_
  refine e_lmul dX6_sum_16 ?_
  refine e_ladd dX6_sum_17 ?_
  refine e_lreturn dX6_sum_18 rfl ?_
  exact ⟨rfl, rfl, rfl⟩
set_option maxHeartbeats 4000000 in
set_option maxRecDepth 100000 in
theorem k_scount {G : kG} {d : Nat} {h : Nat → Option kC} {n : Nat} {i : Nat} {s1 c1 s2 c2 : Int} (r : rSo h i s1 c1 s2 c2) {g : Int} (g0 : 0 ≤ g) (g1 : g ≤ 100) : kCall G mX6_count d 0 0 [.ref (gB G + i), .int (jI g)] h n (kre (some (.long (jL (kg2 c1 c2 g)))) h n) := by
  show kE G mX6_count d 0 0 0 [some (.ref (gB G + i)), some (.int (jI g))] [] h n _
  unfold rSo at r
  refine e_iload_n rfl dX6_count_0 ?_
  refine e_i2l (by first | assumption | (unfold inI at *; omega)) dX6_count_1 ?_
  refine e_aload_n rfl dX6_count_2 ?_
  refine e_getf fdX6_24 dX6_count_3 (by first | assumption | exact kup_s | exact kup_n (by omega) (by first | assumption | exact kup_s | exact kup_n (by omega) (by first | assumption | exact kup_s | exact kup_n (by omega) (by assumption)))) rfl ?_
  refine e_lmul dX6_count_6 ?_
  refine e_bipush (by decide) dX6_count_7 ?_
  refine e_iload_n rfl dX6_count_9 ?_
  refine e_isub dX6_count_10 ?_
  refine e_i2l (by first | assumption | (unfold inI at *; omega)) dX6_count_11 ?_
  refine e_aload_n rfl dX6_count_12 ?_
  refine e_getf fdX6_30 dX6_count_13 (by first | assumption | exact kup_s | exact kup_n (by omega) (by first | assumption | exact kup_s | exact kup_n (by omega) (by first | assumption | exact kup_s | exact kup_n (by omega) (by assumption)))) rfl ?_
  refine e_lmul dX6_count_16 ?_
  refine e_ladd dX6_count_17 ?_
  refine e_lreturn dX6_count_18 rfl ?_
  exact ⟨rfl, rfl, rfl⟩
set_option maxHeartbeats 4000000 in
set_option maxRecDepth 100000 in
theorem k_lack {G : kG} {d : Nat} {h : Nat → Option kC} {n : Nat} {i : Nat} {s1 c1 s2 c2 : Int} (r : rSo h i s1 c1 s2 c2) {g : Int} (g0 : 0 ≤ g) (g1 : g ≤ 100) (hc : inL (kg2 c1 c2 g)) : kCall G mX6_lack (d + 1) 0 0 [.ref (gB G + i), .int (jI g)] h n (kre (some (.int (jI (if kg2 c1 c2 g = 0 then 1 else 0)))) h n) := by
  show kE G mX6_lack (d + 1) 0 0 0 [some (.ref (gB G + i)), some (.int (jI g))] [] h n _
  have r9 := r
  unfold rSo at r
  refine e_aload_n rfl dX6_lack_0 ?_
  refine e_iload_n rfl dX6_lack_1 ?_
  refine eV1 mtX6_count miX6_count lkX6_33 dX6_lack_2 (by first | assumption | exact kup_s | exact kup_n (by omega) (by first | assumption | exact kup_s | exact kup_n (by omega) (by first | assumption | exact kup_s | exact kup_n (by omega) (by assumption)))) rfl rfl rfl (k_scount (by assumption) (by omega) (by omega)) ?_
  dsimp only [Option.toList, List.cons_append, List.nil_append]
  refine e_lconst (z := 0) (by decide) dX6_lack_5 ?_
  refine e_lcmp_ne (tgt := 14) dX6_lack_6 dX6_lack_7 (by decide) (by first | assumption | (unfold inL at *; omega)) (by first | assumption | (unfold inL at *; omega)) (fun c6 => ?_) (fun c6 => ?_)
  · refine e_iconst dX6_lack_14 ?_
    refine e_ireturn dX6_lack_15 rfl (by decide) ?_
    exact ⟨by (repeat' split) <;> first | rfl | (exfalso; omega), rfl, rfl⟩
  · refine e_iconst dX6_lack_10 ?_
    refine e_goto (tgt := 15) dX6_lack_11 (by decide) ?_
    refine e_ireturn dX6_lack_15 rfl (by decide) ?_
    exact ⟨by (repeat' split) <;> first | rfl | (exfalso; omega), rfl, rfl⟩
set_option maxHeartbeats 4000000 in
set_option maxRecDepth 100000 in
theorem k_gap {G : kG} {d : Nat} {h : Nat → Option kC} {n : Nat} {i : Nat} {s1 c1 s2 c2 : Int} (r : rSo h i s1 c1 s2 c2) {g j : Int} (g0 : 0 ≤ g) (g1 : g ≤ 100) (j0 : 0 ≤ j) (j1 : j ≤ 100) : kCall G mX6_gap (d + 1) 0 0 [.ref (gB G + i), .int (jI g), .int (jI j)] h n (kre (some (.long (jL (kgap s1 c1 s2 c2 g j)))) h n) := by
  show kE G mX6_gap (d + 1) 0 0 0 [some (.ref (gB G + i)), some (.int (jI g)), some (.int (jI j))] [] h n _
  have r9 := r
  unfold rSo at r
  refine e_aload_n rfl dX6_gap_0 ?_
  refine e_iload_n rfl dX6_gap_1 ?_
  refine eV1 mtX6_sum miX6_sum lkX6_37 dX6_gap_2 (by first | assumption | exact kup_s | exact kup_n (by omega) (by first | assumption | exact kup_s | exact kup_n (by omega) (by first | assumption | exact kup_s | exact kup_n (by omega) (by assumption)))) rfl rfl rfl (k_ssum (by assumption) (by omega) (by omega)) ?_
  dsimp only [Option.toList, List.cons_append, List.nil_append]
  refine e_aload_n rfl dX6_gap_5 ?_
  refine e_iload_n rfl dX6_gap_6 ?_
  refine eV1 mtX6_count miX6_count lkX6_33 dX6_gap_7 (by first | assumption | exact kup_s | exact kup_n (by omega) (by first | assumption | exact kup_s | exact kup_n (by omega) (by first | assumption | exact kup_s | exact kup_n (by omega) (by assumption)))) rfl rfl rfl (k_scount (by assumption) (by omega) (by omega)) ?_
  dsimp only [Option.toList, List.cons_append, List.nil_append]
  refine e_lmul dX6_gap_10 ?_
  refine e_aload_n rfl dX6_gap_11 ?_
  refine e_iload_n rfl dX6_gap_12 ?_
  refine eV1 mtX6_sum miX6_sum lkX6_37 dX6_gap_13 (by first | assumption | exact kup_s | exact kup_n (by omega) (by first | assumption | exact kup_s | exact kup_n (by omega) (by first | assumption | exact kup_s | exact kup_n (by omega) (by assumption)))) rfl rfl rfl (k_ssum (by assumption) (by omega) (by omega)) ?_
  dsimp only [Option.toList, List.cons_append, List.nil_append]
  refine e_aload_n rfl dX6_gap_16 ?_
  refine e_iload_n rfl dX6_gap_17 ?_
  refine eV1 mtX6_count miX6_count lkX6_33 dX6_gap_18 (by first | assumption | exact kup_s | exact kup_n (by omega) (by first | assumption | exact kup_s | exact kup_n (by omega) (by first | assumption | exact kup_s | exact kup_n (by omega) (by assumption)))) rfl rfl rfl (k_scount (by assumption) (by omega) (by omega)) ?_
  dsimp only [Option.toList, List.cons_append, List.nil_append]
  refine e_lmul dX6_gap_21 ?_
  refine e_lsub dX6_gap_22 ?_
  refine e_lreturn dX6_gap_23 rfl ?_
  exact ⟨rfl, rfl, rfl⟩
set_option maxHeartbeats 4000000 in
set_option maxRecDepth 100000 in
theorem k_lesser {G : kG} {d : Nat} {h : Nat → Option kC} {n : Nat} {i : Nat} {s1 c1 s2 c2 : Int} (r : rSo h i s1 c1 s2 c2) {g j : Int} (g0 : 0 ≤ g) (g1 : g ≤ 100) (j0 : 0 ≤ j) (j1 : j ≤ 100) (hc : inL (kgap s1 c1 s2 c2 g j)) : kCall G mX6_lesser (d + 2) 0 0 [.ref (gB G + i), .int (jI g), .int (jI j)] h n (kre (some (.int (jI (if kgap s1 c1 s2 c2 g j ≤ 0 then g else j)))) h n) := by
  show kE G mX6_lesser (d + 2) 0 0 0 [some (.ref (gB G + i)), some (.int (jI g)), some (.int (jI j))] [] h n _
  have r9 := r
  unfold rSo at r
  refine e_aload_n rfl dX6_lesser_0 ?_
  refine e_iload_n rfl dX6_lesser_1 ?_
  refine e_iload_n rfl dX6_lesser_2 ?_
  refine eV2 mtX6_gap miX6_gap lkX6_40 dX6_lesser_3 (by first | assumption | exact kup_s | exact kup_n (by omega) (by first | assumption | exact kup_s | exact kup_n (by omega) (by first | assumption | exact kup_s | exact kup_n (by omega) (by assumption)))) rfl rfl rfl (k_gap (by assumption) (by omega) (by omega) (by omega) (by omega)) ?_
  dsimp only [Option.toList, List.cons_append, List.nil_append]
  refine e_lconst (z := 0) (by decide) dX6_lesser_6 ?_
  refine e_lcmp_gt (tgt := 15) dX6_lesser_7 dX6_lesser_8 (by decide) (by first | assumption | (unfold inL at *; omega)) (by first | assumption | (unfold inL at *; omega)) (fun c7 => ?_) (fun c7 => ?_)
  · refine e_iload_n rfl dX6_lesser_15 ?_
    refine e_ireturn dX6_lesser_16 rfl rfl ?_
    exact ⟨by (repeat' split) <;> first | rfl | (exfalso; omega), rfl, rfl⟩
  · refine e_iload_n rfl dX6_lesser_11 ?_
    refine e_goto (tgt := 16) dX6_lesser_12 (by decide) ?_
    refine e_ireturn dX6_lesser_16 rfl rfl ?_
    exact ⟨by (repeat' split) <;> first | rfl | (exfalso; omega), rfl, rfl⟩
set_option maxHeartbeats 4000000 in
set_option maxRecDepth 100000 in
theorem k_greater {G : kG} {d : Nat} {h : Nat → Option kC} {n : Nat} {i : Nat} {s1 c1 s2 c2 : Int} (r : rSo h i s1 c1 s2 c2) {g j : Int} (g0 : 0 ≤ g) (g1 : g ≤ 100) (j0 : 0 ≤ j) (j1 : j ≤ 100) (hc : inL (kgap s1 c1 s2 c2 g j)) : kCall G mX6_greater (d + 2) 0 0 [.ref (gB G + i), .int (jI g), .int (jI j)] h n (kre (some (.int (jI (if 0 ≤ kgap s1 c1 s2 c2 g j then g else j)))) h n) := by
  show kE G mX6_greater (d + 2) 0 0 0 [some (.ref (gB G + i)), some (.int (jI g)), some (.int (jI j))] [] h n _
  have r9 := r
  unfold rSo at r
  refine e_aload_n rfl dX6_greater_0 ?_
  refine e_iload_n rfl dX6_greater_1 ?_
  refine e_iload_n rfl dX6_greater_2 ?_
  refine eV2 mtX6_gap miX6_gap lkX6_40 dX6_greater_3 (by first | assumption | exact kup_s | exact kup_n (by omega) (by first | assumption | exact kup_s | exact kup_n (by omega) (by first | assumption | exact kup_s | exact kup_n (by omega) (by assumption)))) rfl rfl rfl (k_gap (by assumption) (by omega) (by omega) (by omega) (by omega)) ?_
  dsimp only [Option.toList, List.cons_append, List.nil_append]
  refine e_lconst (z := 0) (by decide) dX6_greater_6 ?_
  refine e_lcmp_lt (tgt := 15) dX6_greater_7 dX6_greater_8 (by decide) (by first | assumption | (unfold inL at *; omega)) (by first | assumption | (unfold inL at *; omega)) (fun c7 => ?_) (fun c7 => ?_)
  · refine e_iload_n rfl dX6_greater_15 ?_
    refine e_ireturn dX6_greater_16 rfl rfl ?_
    exact ⟨by (repeat' split) <;> first | rfl | (exfalso; omega), rfl, rfl⟩
  · refine e_iload_n rfl dX6_greater_11 ?_
    refine e_goto (tgt := 16) dX6_greater_12 (by decide) ?_
    refine e_ireturn dX6_greater_16 rfl rfl ?_
    exact ⟨by (repeat' split) <;> first | rfl | (exfalso; omega), rfl, rfl⟩
