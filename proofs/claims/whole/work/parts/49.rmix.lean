/-! THE REFERENCE: SORTS -/
theorem ktl_scale {u l p k : Int} (hk : 0 < k) (hl : 0 ≤ l) : ktl (u * k) (l * k) p = ktl u l p := by
  unfold ktl
  by_cases h1 : u = 0 ∨ l ≤ 0
  · have h2 : u * k = 0 ∨ l * k ≤ 0 := by
      rcases h1 with h | h
      · exact Or.inl (by rw [h, Int.zero_mul])
      · exact Or.inr (by rw [show l = 0 by omega, Int.zero_mul]; exact Int.le_refl 0)
    rw [if_pos h1, if_pos h2]
  · have h3 : ¬ (u * k = 0 ∨ l * k ≤ 0) := by
      rintro (h | h)
      · rcases Int.mul_eq_zero.mp h with h | h <;> omega
      · have := Int.mul_pos (show 0 < l by omega) hk
        omega
    rw [if_neg h1, if_neg h3]
    have e1 : kab (u * k) = kab u * k := by
      unfold kab
      by_cases c : u < 0
      · rw [if_pos c, if_pos (Int.mul_neg_of_neg_of_pos c hk), Int.neg_mul]
      · rw [if_neg c, if_neg (by have := Int.mul_nonneg (show 0 ≤ u by omega) (show 0 ≤ k by omega); omega)]
    have e2 : kgc (kab u * k) (l * k) = kgc (kab u) l * k := by
      unfold kgc
      rw [Int.toNat_mul (kab_in u).1 (by omega), Int.toNat_mul (by omega) (by omega), Nat.gcd_mul_right, Int.natCast_mul, show ((k.toNat : Nat) : Int) = k by omega]
    rw [e1, e2]
    have e3 : (if p = 0 then u * k else l * k) = (if p = 0 then u else l) * k := by split <;> rfl
    rw [e3, Int.mul_tdiv_mul_of_pos_left _ _ hk]
theorem kgc_dl {a b : Int} (ha : 0 ≤ a) : kgc a b ∣ a := by
  unfold kgc
  have h := Int.natCast_dvd_natCast.mpr (Nat.gcd_dvd_left a.toNat b.toNat)
  rwa [show ((a.toNat : Nat) : Int) = a by omega] at h
theorem kgc_dr {a b : Int} (hb : 0 ≤ b) : kgc a b ∣ b := by
  unfold kgc
  have h := Int.natCast_dvd_natCast.mpr (Nat.gcd_dvd_right a.toNat b.toNat)
  rwa [show ((b.toNat : Nat) : Int) = b by omega] at h
theorem kless_alg {p q r s k1 k2 : Int} : p * k1 * (s * k2) - r * k2 * (q * k1) = (p * s - r * q) * (k1 * k2) ∧ q * k1 * (s * k2) = q * s * (k1 * k2) := by
  constructor
  · rw [Int.sub_mul]
    congr 1
    · simp only [Int.mul_assoc, Int.mul_comm, Int.mul_left_comm]
    · simp only [Int.mul_assoc, Int.mul_comm, Int.mul_left_comm]
  · simp only [Int.mul_assoc, Int.mul_comm, Int.mul_left_comm]
theorem kless {a b c d part : Int} (a0 : 0 ≤ a) (b0 : 0 < b) (c0 : 0 ≤ c) (d0 : 0 < d) : ktl (a / kgc a b * (d / kgc c d) - c / kgc c d * (b / kgc a b)) (b / kgc a b * (d / kgc c d)) part = ktl (a * d - c * b) (b * d) part := by
  have k1 := kgc_pos (a := a) b0
  have k2 := kgc_pos (a := c) d0
  have e1 := Int.ediv_mul_cancel (kgc_dl (b := b) a0)
  have e2 := Int.ediv_mul_cancel (kgc_dr (a := a) (show 0 ≤ b by omega))
  have e3 := Int.ediv_mul_cancel (kgc_dl (b := d) c0)
  have e4 := Int.ediv_mul_cancel (kgc_dr (a := c) (show 0 ≤ d by omega))
  have h := kless_alg (p := a / kgc a b) (q := b / kgc a b) (r := c / kgc c d) (s := d / kgc c d) (k1 := kgc a b) (k2 := kgc c d)
  rw [e1, e2, e3, e4] at h
  rw [h.1, h.2, ktl_scale (Int.mul_pos k1 k2)]
  exact Int.mul_nonneg (Int.ediv_nonneg (by omega) (by omega)) (Int.ediv_nonneg (by omega) (by omega))
theorem kab_nn {a : Int} (h : 0 ≤ a) : kab a = a := by
  unfold kab
  rw [if_neg (by omega)]
set_option maxHeartbeats 4000000 in
set_option maxRecDepth 100000 in
theorem j_areHumps {G : kG} {d : Nat} {h : Nat → Option kC} {n : Nat} {x y w l : Int} (hx : inI x) (hy : inI y) (hw : inI w) (hl : inI l) : kCall G mX10_areHumps (d + 2) 0 0 [.int (jI x), .int (jI y), .int (jI w), .int (jI l)] h n (kre (some (.int (jI (if ((0 ≤ x ∧ x ≤ 63) ∧ 1 ≤ w ∧ w ≤ 8) ∧ (0 ≤ y ∧ y ≤ 63) ∧ 0 ≤ l ∧ l ≤ 63 then 1 else 0)))) h n) := by
  show kE G mX10_areHumps (d + 2) 0 0 0 [some (.int (jI x)), some (.int (jI y)), some (.int (jI w)), some (.int (jI l))] [] h n _
  refine e_iload_n rfl dX10_areHumps_0 ?_
  refine eS1 mtX10_isHeight msX10_isHeight lkX10_80 dX10_areHumps_1 rfl rfl (j_isHeight (by first | assumption | (unfold inI at *; omega))) ?_
  dsimp only [Option.toList, List.cons_append, List.nil_append]
  refine e_ifeqP (tgt := 32) dX10_areHumps_4 (by decide) (fun c4 => ?_) (fun c4 => ?_)
  · refine e_iconst dX10_areHumps_32 ?_
    refine e_ireturn dX10_areHumps_33 rfl (by decide) ?_
    exact ⟨by (repeat' split) <;> first | rfl | (exfalso; omega), rfl, rfl⟩
  · refine e_iload_n rfl dX10_areHumps_7 ?_
    refine eS1 mtX10_isHeight msX10_isHeight lkX10_80 dX10_areHumps_8 rfl rfl (j_isHeight (by first | assumption | (unfold inI at *; omega))) ?_
    dsimp only [Option.toList, List.cons_append, List.nil_append]
    refine e_ifeqP (tgt := 32) dX10_areHumps_11 (by decide) (fun c11 => ?_) (fun c11 => ?_)
    · refine e_iconst dX10_areHumps_32 ?_
      refine e_ireturn dX10_areHumps_33 rfl (by decide) ?_
      exact ⟨by (repeat' split) <;> first | rfl | (exfalso; omega), rfl, rfl⟩
    · refine e_iload_n rfl dX10_areHumps_14 ?_
      refine eS1 mtX10_isWidth msX10_isWidth lkX10_152 dX10_areHumps_15 rfl rfl (j_isWidth (by first | assumption | (unfold inI at *; omega))) ?_
      dsimp only [Option.toList, List.cons_append, List.nil_append]
      refine e_ifeqP (tgt := 32) dX10_areHumps_18 (by decide) (fun c18 => ?_) (fun c18 => ?_)
      · refine e_iconst dX10_areHumps_32 ?_
        refine e_ireturn dX10_areHumps_33 rfl (by decide) ?_
        exact ⟨by (repeat' split) <;> first | rfl | (exfalso; omega), rfl, rfl⟩
      · refine e_iload_n rfl dX10_areHumps_21 ?_
        refine eS1 mtX10_isHeight msX10_isHeight lkX10_80 dX10_areHumps_22 rfl rfl (j_isHeight (by first | assumption | (unfold inI at *; omega))) ?_
        dsimp only [Option.toList, List.cons_append, List.nil_append]
        refine e_ifeqP (tgt := 32) dX10_areHumps_25 (by decide) (fun c25 => ?_) (fun c25 => ?_)
        · refine e_iconst dX10_areHumps_32 ?_
          refine e_ireturn dX10_areHumps_33 rfl (by decide) ?_
          exact ⟨by (repeat' split) <;> first | rfl | (exfalso; omega), rfl, rfl⟩
        · refine e_iconst dX10_areHumps_28 ?_
          refine e_goto (tgt := 33) dX10_areHumps_29 (by decide) ?_
          refine e_ireturn dX10_areHumps_33 rfl (by decide) ?_
          exact ⟨by (repeat' split) <;> first | rfl | (exfalso; omega), rfl, rfl⟩
set_option maxHeartbeats 4000000 in
set_option maxRecDepth 100000 in
theorem j_areShares {G : kG} {d : Nat} {h : Nat → Option kC} {n : Nat} {v : Int} (hv : inI v) : kCall G mX10_areShares (d + 2) 0 0 [.int (jI v)] h n (kre (some (.int (jI (if 0 ≤ v ∧ v / 1000 ≤ v % 1000 ∧ v % 1000 ≤ 100 then 1 else 0)))) h n) := by
  show kE G mX10_areShares (d + 2) 0 0 0 [some (.int (jI v))] [] h n _
  refine e_iload_n rfl dX10_areShares_0 ?_
  refine e_if_lt (tgt := 40) dX10_areShares_1 (by decide) (by first | assumption | (unfold inI at *; omega)) (fun c1 => ?_) (fun c1 => ?_)
  · refine e_iconst dX10_areShares_40 ?_
    refine e_ireturn dX10_areShares_41 rfl (by decide) ?_
    exact ⟨by (repeat' split) <;> first | rfl | (exfalso; omega), rfl, rfl⟩
  · refine e_iload_n rfl dX10_areShares_4 ?_
    refine e_sipush (by decide) dX10_areShares_5 ?_
    refine e_idivN (by first | assumption | (unfold inI at *; omega)) (by first | assumption | (unfold inI at *; omega)) (by omega) (by omega) dX10_areShares_8 ?_
    refine eS1 mtX10_isShare msX10_isShare lkX10_238 dX10_areShares_9 rfl rfl (j_isShare (by first | assumption | (unfold inI at *; omega))) ?_
    dsimp only [Option.toList, List.cons_append, List.nil_append]
    refine e_ifeqP (tgt := 40) dX10_areShares_12 (by decide) (fun c12 => ?_) (fun c12 => ?_)
    · refine e_iconst dX10_areShares_40 ?_
      refine e_ireturn dX10_areShares_41 rfl (by decide) ?_
      exact ⟨by (repeat' split) <;> first | rfl | (exfalso; omega), rfl, rfl⟩
    · refine e_iload_n rfl dX10_areShares_15 ?_
      refine e_sipush (by decide) dX10_areShares_16 ?_
      refine e_iremN (by first | assumption | (unfold inI at *; omega)) (by first | assumption | (unfold inI at *; omega)) (by omega) (by omega) dX10_areShares_19 ?_
      refine e_i2l (by first | assumption | (unfold inI at *; omega)) dX10_areShares_20 ?_
      refine e_iload_n rfl dX10_areShares_21 ?_
      refine e_sipush (by decide) dX10_areShares_22 ?_
      refine e_idivN (by first | assumption | (unfold inI at *; omega)) (by first | assumption | (unfold inI at *; omega)) (by omega) (by omega) dX10_areShares_25 ?_
      refine e_i2l (by first | assumption | (unfold inI at *; omega)) dX10_areShares_26 ?_
      refine e_ldc2 (z := 100) kcX10_214 (by decide) dX10_areShares_27 ?_
      refine eS3 mtX10_in msX10_in lkX10_64 dX10_areShares_30 rfl rfl (j_in (by first | assumption | exact inL_of (by assumption) | (unfold inL; omega) | (unfold inI at *; unfold inL; omega)) (by first | assumption | exact inL_of (by assumption) | (unfold inL; omega) | (unfold inI at *; unfold inL; omega)) (by first | assumption | exact inL_of (by assumption) | (unfold inL; omega) | (unfold inI at *; unfold inL; omega))) ?_
      dsimp only [Option.toList, List.cons_append, List.nil_append]
      refine e_ifeqP (tgt := 40) dX10_areShares_33 (by decide) (fun c33 => ?_) (fun c33 => ?_)
      · refine e_iconst dX10_areShares_40 ?_
        refine e_ireturn dX10_areShares_41 rfl (by decide) ?_
        exact ⟨by (repeat' split) <;> first | rfl | (exfalso; omega), rfl, rfl⟩
      · refine e_iconst dX10_areShares_36 ?_
        refine e_goto (tgt := 41) dX10_areShares_37 (by decide) ?_
        refine e_ireturn dX10_areShares_41 rfl (by decide) ?_
        exact ⟨by (repeat' split) <;> first | rfl | (exfalso; omega), rfl, rfl⟩
set_option maxHeartbeats 4000000 in
set_option maxRecDepth 100000 in
theorem j_less {G : kG} {d : Nat} {h : Nat → Option kC} {n : Nat} {a b c e p : Int} (a0 : 0 ≤ a ∧ a ≤ 5189184000) (b0 : 0 < b ∧ b ≤ 82368000) (c0 : 0 ≤ c ∧ c ≤ 5189184000) (e0 : 0 < e ∧ e ≤ 82368000) (p0 : 0 ≤ p ∧ p ≤ 1) : kCall G mX10_less (d + 2) 0 0 [.long (jL a), .long (jL b), .long (jL c), .long (jL e), .int (jI p)] h n (kre (some (.long (jL (ktl (a * e - c * b) (b * e) p)))) h n) := by
  show kE G mX10_less (d + 2) 0 0 0 [some (.long (jL a)), none, some (.long (jL b)), none, some (.long (jL c)), none, some (.long (jL e)), none, some (.int (jI p)), none, none, none, none, none, none, none, none, none, none, none, none] [] h n _
  refine e_lload_n rfl dX10_less_0 ?_
  refine e_lload_n rfl dX10_less_1 ?_
  refine eS2 mtX10_common msX10_common lkX10_72 dX10_less_2 rfl rfl (j_common (by omega) (by omega)) ?_
  dsimp only [Option.toList, List.cons_append, List.nil_append]
  rw [kab_nn a0.1]
  refine e_lstore dX10_less_5 rfl rfl ?_
  dsimp only [List.set]
  refine e_lload rfl dX10_less_7 ?_
  refine e_lload rfl dX10_less_9 ?_
  refine eS2 mtX10_common msX10_common lkX10_72 dX10_less_11 rfl rfl (j_common (by omega) (by omega)) ?_
  dsimp only [Option.toList, List.cons_append, List.nil_append]
  rw [kab_nn c0.1]
  have z1 := kgc_pos (a := a) b0.1
  have z2 := kgc_le (a := a) b0.1
  have z3 := kgc_pos (a := c) e0.1
  have z4 := kgc_le (a := c) e0.1
  have y1 := Int.ediv_le_self (kgc a b) a0.1
  have y2 := Int.ediv_le_self (kgc a b) (show 0 ≤ b by omega)
  have y3 := Int.ediv_le_self (kgc c e) c0.1
  have y4 := Int.ediv_le_self (kgc c e) (show 0 ≤ e by omega)
  have x1 := Int.ediv_nonneg a0.1 (show 0 ≤ kgc a b by omega)
  have x2 := Int.ediv_nonneg (show 0 ≤ b by omega) (show 0 ≤ kgc a b by omega)
  have x3 := Int.ediv_nonneg c0.1 (show 0 ≤ kgc c e by omega)
  have x4 := Int.ediv_nonneg (show 0 ≤ e by omega) (show 0 ≤ kgc c e by omega)
  have w1 : a / kgc a b * (e / kgc c e) ≤ 5189184000 * 82368000 := Int.mul_le_mul (by omega) (by omega) x4 (by decide)
  have w2 : c / kgc c e * (b / kgc a b) ≤ 5189184000 * 82368000 := Int.mul_le_mul (by omega) (by omega) x2 (by decide)
  have w3 : b / kgc a b * (e / kgc c e) ≤ 82368000 * 82368000 := Int.mul_le_mul (by omega) (by omega) x4 (by decide)
  have v1 := Int.mul_nonneg x1 x4
  have v2 := Int.mul_nonneg x3 x2
  have v3 := Int.mul_nonneg x2 x4
  refine e_lstore dX10_less_14 rfl rfl ?_
  dsimp only [List.set]
  refine e_lload_n rfl dX10_less_16 ?_
  refine e_lload rfl dX10_less_17 ?_
  refine e_ldivN (by first | assumption | (unfold inL at *; omega)) (by first | assumption | (unfold inL at *; omega)) (by omega) (by omega) dX10_less_19 ?_
  refine e_lstore dX10_less_20 rfl rfl ?_
  dsimp only [List.set]
  refine e_lload_n rfl dX10_less_22 ?_
  refine e_lload rfl dX10_less_23 ?_
  refine e_ldivN (by first | assumption | (unfold inL at *; omega)) (by first | assumption | (unfold inL at *; omega)) (by omega) (by omega) dX10_less_25 ?_
  refine e_lstore dX10_less_26 rfl rfl ?_
  dsimp only [List.set]
  refine e_lload rfl dX10_less_28 ?_
  refine e_lload rfl dX10_less_30 ?_
  refine e_ldivN (by first | assumption | (unfold inL at *; omega)) (by first | assumption | (unfold inL at *; omega)) (by omega) (by omega) dX10_less_32 ?_
  refine e_lstore dX10_less_33 rfl rfl ?_
  dsimp only [List.set]
  refine e_lload rfl dX10_less_35 ?_
  refine e_lload rfl dX10_less_37 ?_
  refine e_ldivN (by first | assumption | (unfold inL at *; omega)) (by first | assumption | (unfold inL at *; omega)) (by omega) (by omega) dX10_less_39 ?_
  refine e_lstore dX10_less_40 rfl rfl ?_
  dsimp only [List.set]
  refine e_lload rfl dX10_less_42 ?_
  refine e_lload rfl dX10_less_44 ?_
  refine e_lmul dX10_less_46 ?_
  refine e_lload rfl dX10_less_47 ?_
  refine e_lload rfl dX10_less_49 ?_
  refine e_lmul dX10_less_51 ?_
  refine e_lsub dX10_less_52 ?_
  refine e_lload rfl dX10_less_53 ?_
  refine e_lload rfl dX10_less_55 ?_
  refine e_lmul dX10_less_57 ?_
  refine e_iload rfl dX10_less_58 ?_
  refine eS3 mtX10_lowest msX10_lowest lkX10_161 dX10_less_60 rfl rfl (j_lowest (by omega) (by omega) (by omega) (by omega) (by omega) (by omega)) ?_
  dsimp only [Option.toList, List.cons_append, List.nil_append]
  refine e_lreturn dX10_less_63 rfl ?_
  exact ⟨by rw [kless a0.1 b0.1 c0.1 e0.1], rfl, rfl⟩
def kq2 (q : Nat → Int) (u v : Int) : Nat → Int := up (up q 23 u) 24 v
theorem kq2_l {q : Nat → Int} {u v z : Int} : up (kq2 q u v) 24 z = kq2 q u z := by
  funext j
  unfold kq2 up
  split <;> rfl
theorem kq2_u {q : Nat → Int} {u v z : Int} : up (kq2 q u v) 23 z = kq2 q z v := by
  funext j
  unfold kq2 up
  by_cases e : j = 23
  · subst e; rfl
  · simp only [e, if_false]
theorem kq2_24 {q : Nat → Int} {u v : Int} : kq2 q u v 24 = v := rfl
theorem kq2_23 {q : Nat → Int} {u v : Int} : kq2 q u v 23 = u := rfl
def kCi (m w l : Int) : Nat → Int := fun x => if l ≤ (x : Int) then khm m w x else 0
def kSi (m w l : Int) : Nat → Int := fun x => if l ≤ (x : Int) then (x : Int) * khm m w x else 0
theorem kCi_s {m w l : Int} {i : Nat} (h : l ≤ (i : Int)) : ksum (kCi m w l) (i + 1) = ksum (kCi m w l) i + khm m w i := by rw [ksum_s]; unfold kCi; rw [if_pos h]
theorem kSi_s {m w l : Int} {i : Nat} (h : l ≤ (i : Int)) : ksum (kSi m w l) (i + 1) = ksum (kSi m w l) i + (i : Int) * khm m w i := by rw [ksum_s]; unfold kSi; rw [if_pos h]
theorem kCi_0 {m w l : Int} {i : Nat} (h : (i : Int) ≤ l) : ksum (kCi m w l) i = 0 ∧ ksum (kSi m w l) i = 0 := by
  constructor
  · exact ksum_tail (a := 0) (Nat.zero_le _) (fun k _ h6 => if_neg (by omega))
  · exact ksum_tail (a := 0) (Nat.zero_le _) (fun k _ h6 => if_neg (by omega))
theorem kg2_a {a b p r g : Int} : kg2 (a + p) (b + r) g = kg2 a b g + (g * p + (100 - g) * r) := by
  unfold kg2
  rw [Int.mul_add, Int.mul_add]
  omega
theorem kg2_m {a b p r g i : Int} : kg2 (a + i * p) (b + i * r) g = kg2 a b g + i * (g * p + (100 - g) * r) := by
  rw [kg2_a, Int.mul_add, Int.mul_left_comm i g p, Int.mul_left_comm i (100 - g) r]
set_option maxHeartbeats 4000000 in
set_option maxRecDepth 100000 in
theorem j_mix_lp {G : kG} {d : Nat} {h : Nat → Option kC} {n : Nat} {q : Nat → Int} {F : Nat → Nat → Int} {x y w l g : Int} (x0 : 0 ≤ x ∧ x ≤ 63) (y0 : 0 ≤ y ∧ y ≤ 63) (w0 : 1 ≤ w ∧ w ≤ 8) (l0 : 0 ≤ l ∧ l ≤ 63) (g0 : 0 ≤ g ∧ g ≤ 100)  : ∀ (f : Nat) (i : Nat) (z u1 y1 : Int) (e7 e8 : Option Value), z = (i : Int) → l ≤ (i : Int) ∧ i ≤ 64 → 64 - (i : Int) ≤ f → u1 = kg2 (ksum (kSi x w l) i) (ksum (kSi y w l) i) g → y1 = kg2 (ksum (kCi x w l) i) (ksum (kCi y w l) i) g → kE G mX10_findMix (d + 3) 0 0 14 [some (.ref (gB G + 97)), some (.int (jI x)), some (.int (jI y)), some (.int (jI w)), some (.int (jI l)), some (.int (jI g)), some (.int (jI z)), e7, e8] [] (kmh G h (kq2 q u1 y1) F) n (kre (some (.int (jI (if 0 < (kg2 (kcf x w l) (kcf y w l) g) then 1 else 0)))) (kmh G h (kq2 q (kg2 (ksf x w l) (ksf y w l) g) (kg2 (kcf x w l) (kcf y w l) g)) F) n) := by
  intro f
  induction f with
  | zero =>
    intro i z u1 y1 e7 e8 g1 g2 g3 g4 g5
    refine e_iload rfl dX10_findMix_14 ?_
    refine e_bipush (by decide) dX10_findMix_16 ?_
    refine e_icmp_ge (tgt := 83) dX10_findMix_18 (by decide) (by first | assumption | (unfold inI at *; omega)) (by first | assumption | (unfold inI at *; omega)) (fun c18 => ?_) (fun c18 => ?_)
    · have e3 : y1 = (kg2 (kcf x w l) (kcf y w l) g) := by rw [g5, show i = 64 by omega]; rfl
      have e4 := kg2_in (kcf_in (m := x) (w := w) (l := l) (by omega) (by omega)) (kcf_in (m := y) (w := w) (l := l) (by omega) (by omega)) g0.1 g0.2
      refine e_aload_n rfl dX10_findMix_83 ?_
      refine e_getf fdX10_231 dX10_findMix_84 kmh_97 rfl ?_
      rw [kq2_24]
      refine e_lconst (z := 0) (by decide) dX10_findMix_87 ?_
      refine e_lcmp_le (tgt := 96) dX10_findMix_88 dX10_findMix_89 (by decide) (by first | assumption | (unfold inL at *; omega)) (by first | assumption | (unfold inL at *; omega)) (fun c88 => ?_) (fun c88 => ?_)
      · refine e_iconst dX10_findMix_96 ?_
        refine e_ireturn dX10_findMix_97 rfl (by decide) ?_
        have e1 : y1 = (kg2 (kcf x w l) (kcf y w l) g) := by rw [g5, show i = 64 by omega]; rfl
        have e2 : u1 = (kg2 (ksf x w l) (ksf y w l) g) := by rw [g4, show i = 64 by omega]; rfl
        subst e1
        subst e2
        first | exact ⟨by rw [if_pos (by omega)], rfl, rfl⟩ | exact ⟨by rw [if_neg (by omega)], rfl, rfl⟩
      · refine e_iconst dX10_findMix_92 ?_
        refine e_goto (tgt := 97) dX10_findMix_93 (by decide) ?_
        refine e_ireturn dX10_findMix_97 rfl (by decide) ?_
        have e1 : y1 = (kg2 (kcf x w l) (kcf y w l) g) := by rw [g5, show i = 64 by omega]; rfl
        have e2 : u1 = (kg2 (ksf x w l) (ksf y w l) g) := by rw [g4, show i = 64 by omega]; rfl
        subst e1
        subst e2
        first | exact ⟨by rw [if_pos (by omega)], rfl, rfl⟩ | exact ⟨by rw [if_neg (by omega)], rfl, rfl⟩
    · exact absurd c18 (by omega)
  | succ f ih =>
    intro i z u1 y1 e7 e8 g1 g2 g3 g4 g5
    subst g1
    have q9 := khm_in (m := x) (w := w) (by omega) (by omega) (i : Int)
    have q8 := khm_in (m := y) (w := w) (by omega) (by omega) (i : Int)
    refine e_iload rfl dX10_findMix_14 ?_
    refine e_bipush (by decide) dX10_findMix_16 ?_
    refine e_icmp_ge (tgt := 83) dX10_findMix_18 (by decide) (by first | assumption | (unfold inI at *; omega)) (by first | assumption | (unfold inI at *; omega)) (fun c18 => ?_) (fun c18 => ?_)
    · have e3 : y1 = (kg2 (kcf x w l) (kcf y w l) g) := by rw [g5, show i = 64 by omega]; rfl
      have e4 := kg2_in (kcf_in (m := x) (w := w) (l := l) (by omega) (by omega)) (kcf_in (m := y) (w := w) (l := l) (by omega) (by omega)) g0.1 g0.2
      refine e_aload_n rfl dX10_findMix_83 ?_
      refine e_getf fdX10_231 dX10_findMix_84 kmh_97 rfl ?_
      rw [kq2_24]
      refine e_lconst (z := 0) (by decide) dX10_findMix_87 ?_
      refine e_lcmp_le (tgt := 96) dX10_findMix_88 dX10_findMix_89 (by decide) (by first | assumption | (unfold inL at *; omega)) (by first | assumption | (unfold inL at *; omega)) (fun c88 => ?_) (fun c88 => ?_)
      · refine e_iconst dX10_findMix_96 ?_
        refine e_ireturn dX10_findMix_97 rfl (by decide) ?_
        have e1 : y1 = (kg2 (kcf x w l) (kcf y w l) g) := by rw [g5, show i = 64 by omega]; rfl
        have e2 : u1 = (kg2 (ksf x w l) (ksf y w l) g) := by rw [g4, show i = 64 by omega]; rfl
        subst e1
        subst e2
        first | exact ⟨by rw [if_pos (by omega)], rfl, rfl⟩ | exact ⟨by rw [if_neg (by omega)], rfl, rfl⟩
      · refine e_iconst dX10_findMix_92 ?_
        refine e_goto (tgt := 97) dX10_findMix_93 (by decide) ?_
        refine e_ireturn dX10_findMix_97 rfl (by decide) ?_
        have e1 : y1 = (kg2 (kcf x w l) (kcf y w l) g) := by rw [g5, show i = 64 by omega]; rfl
        have e2 : u1 = (kg2 (ksf x w l) (ksf y w l) g) := by rw [g4, show i = 64 by omega]; rfl
        subst e1
        subst e2
        first | exact ⟨by rw [if_pos (by omega)], rfl, rfl⟩ | exact ⟨by rw [if_neg (by omega)], rfl, rfl⟩
    · refine e_iload rfl dX10_findMix_21 ?_
      refine e_i2l (by first | assumption | (unfold inI at *; omega)) dX10_findMix_23 ?_
      refine e_iload_n rfl dX10_findMix_24 ?_
      refine e_iload_n rfl dX10_findMix_25 ?_
      refine e_iload rfl dX10_findMix_26 ?_
      refine eS3 mtX10_humpOf msX10_humpOf lkX10_155 dX10_findMix_28 rfl rfl (j_humpOf (by omega) (by omega) (by omega)) ?_
      dsimp only [Option.toList, List.cons_append, List.nil_append]
      refine e_i2l (by first | assumption | (unfold inI at *; omega)) dX10_findMix_31 ?_
      refine e_lmul dX10_findMix_32 ?_
      refine e_bipush (by decide) dX10_findMix_33 ?_
      refine e_iload rfl dX10_findMix_35 ?_
      refine e_isub dX10_findMix_37 ?_
      refine e_i2l (by first | assumption | (unfold inI at *; omega)) dX10_findMix_38 ?_
      refine e_iload_n rfl dX10_findMix_39 ?_
      refine e_iload_n rfl dX10_findMix_40 ?_
      refine e_iload rfl dX10_findMix_41 ?_
      refine eS3 mtX10_humpOf msX10_humpOf lkX10_155 dX10_findMix_43 rfl rfl (j_humpOf (by omega) (by omega) (by omega)) ?_
      dsimp only [Option.toList, List.cons_append, List.nil_append]
      refine e_i2l (by first | assumption | (unfold inI at *; omega)) dX10_findMix_46 ?_
      refine e_lmul dX10_findMix_47 ?_
      refine e_ladd dX10_findMix_48 ?_
      refine e_lstore dX10_findMix_49 rfl rfl ?_
      dsimp only [List.set]
      refine e_aload_n rfl dX10_findMix_51 ?_
      refine e_dup rfl dX10_findMix_52 ?_
      refine e_getf fdX10_231 dX10_findMix_53 kmh_97 rfl ?_
      rw [kq2_24]
      refine e_lload rfl dX10_findMix_56 ?_
      refine e_ladd dX10_findMix_58 ?_
      refine e_mput pfX10_231 dX10_findMix_59 kml_24 rfl rfl rfl ?_
      rw [kq2_l]
      refine e_aload_n rfl dX10_findMix_62 ?_
      refine e_dup rfl dX10_findMix_63 ?_
      refine e_getf fdX10_227 dX10_findMix_64 kmh_97 rfl ?_
      rw [kq2_23]
      refine e_iload rfl dX10_findMix_67 ?_
      refine e_i2l (by first | assumption | (unfold inI at *; omega)) dX10_findMix_69 ?_
      refine e_lload rfl dX10_findMix_70 ?_
      refine e_lmul dX10_findMix_72 ?_
      refine e_ladd dX10_findMix_73 ?_
      refine e_mput pfX10_227 dX10_findMix_74 kml_23 rfl rfl rfl ?_
      rw [kq2_u]
      refine e_iinc dX10_findMix_77 rfl rfl ?_
      dsimp only [List.set]
      refine e_goto (tgt := 14) dX10_findMix_80 (by decide) ?_
      exact ih (i + 1) _ _ _ _ _ (by omega) (by omega) (by omega) (by rw [g4, kSi_s (by omega), kSi_s (by omega), kg2_m]) (by rw [g5, kCi_s (by omega), kCi_s (by omega), kg2_a])
set_option maxHeartbeats 4000000 in
set_option maxRecDepth 100000 in
theorem j_findMix {G : kG} {d : Nat} {h : Nat → Option kC} {n : Nat} {q : Nat → Int} {F : Nat → Nat → Int} {x y w l g : Int} (x0 : 0 ≤ x ∧ x ≤ 63) (y0 : 0 ≤ y ∧ y ≤ 63) (w0 : 1 ≤ w ∧ w ≤ 8) (l0 : 0 ≤ l ∧ l ≤ 63) (g0 : 0 ≤ g ∧ g ≤ 100)  : kCall G mX10_findMix (d + 3) 0 0 [.ref (gB G + 97), .int (jI x), .int (jI y), .int (jI w), .int (jI l), .int (jI g)] (kmh G h q F) n (kre (some (.int (jI (if 0 < (kg2 (kcf x w l) (kcf y w l) g) then 1 else 0)))) (kmh G h (kq2 q (kg2 (ksf x w l) (ksf y w l) g) (kg2 (kcf x w l) (kcf y w l) g)) F) n) := by
  show kE G mX10_findMix (d + 3) 0 0 0 [some (.ref (gB G + 97)), some (.int (jI x)), some (.int (jI y)), some (.int (jI w)), some (.int (jI l)), some (.int (jI g)), none, none, none] [] (kmh G h q F) n _
  refine e_aload_n rfl dX10_findMix_0 ?_
  refine e_lconst (z := 0) (by decide) dX10_findMix_1 ?_
  refine e_mput pfX10_227 dX10_findMix_2 kml_23 rfl rfl rfl ?_
  refine e_aload_n rfl dX10_findMix_5 ?_
  refine e_lconst (z := 0) (by decide) dX10_findMix_6 ?_
  refine e_mput pfX10_231 dX10_findMix_7 kml_24 rfl rfl rfl ?_
  refine e_iload rfl dX10_findMix_10 ?_
  refine e_istore dX10_findMix_12 rfl rfl ?_
  dsimp only [List.set]
  have e9 := kCi_0 (m := x) (w := w) (l := l) (i := l.toNat) (by omega)
  have e8 := kCi_0 (m := y) (w := w) (l := l) (i := l.toNat) (by omega)
  exact j_mix_lp x0 y0 w0 l0 g0 100 l.toNat _ _ _ _ _ (by omega) (by omega) (by omega) (by rw [e9.2, e8.2]; unfold kg2; omega) (by rw [e9.1, e8.1]; unfold kg2; omega)
set_option maxHeartbeats 4000000 in
set_option maxRecDepth 100000 in
theorem j_mix {G : kG} {d : Nat} {h : Nat → Option kC} {n : Nat} {q : Nat → Int} {F : Nat → Nat → Int} {Z : kCs} (md : rMD q F Z) (ok : kCok Z)  {x : Int} (hx : inI x) {y : Int} (hy : inI y) {w : Int} (hw : inI w) {l : Int} (hl : inI l) {g : Int} (hg : inI g) {p : Int} (hp : inI p) : kCall G mX10_mix (d + 4) 0 0 [.ref (gB G + 97), .int (jI x), .int (jI y), .int (jI w), .int (jI l), .int (jI g), .int (jI p)] (kmh G h q F) n (kQm G h n (.long (jL (a_mix Z x y w l g p))) (Z)) := by
  show kE G mX10_mix (d + 4) 0 0 0 [some (.ref (gB G + 97)), some (.int (jI x)), some (.int (jI y)), some (.int (jI w)), some (.int (jI l)), some (.int (jI g)), some (.int (jI p))] [] (kmh G h q F) n _
  refine e_iload_n rfl dX10_mix_0 ?_
  refine e_iload_n rfl dX10_mix_1 ?_
  refine e_iload_n rfl dX10_mix_2 ?_
  refine e_iload rfl dX10_mix_3 ?_
  refine eS4 mtX10_areHumps msX10_areHumps lkX10_234 dX10_mix_5 rfl rfl (j_areHumps (by first | assumption | (unfold inI at *; omega)) (by first | assumption | (unfold inI at *; omega)) (by first | assumption | (unfold inI at *; omega)) (by first | assumption | (unfold inI at *; omega))) ?_
  dsimp only [Option.toList, List.cons_append, List.nil_append]
  refine e_ifeqP (tgt := 27) dX10_mix_8 (by decide) (fun c8 => ?_) (fun c8 => ?_)
  · refine e_ldc2 (z := (-1000000000000000002)) kcX10_159 (by decide) dX10_mix_27 ?_
    refine e_lreturn dX10_mix_30 rfl ?_
    exact kQm_0 (by unfold a_mix; rw [if_pos (by omega)]) md
  · refine e_iload rfl dX10_mix_11 ?_
    refine eS1 mtX10_isShare msX10_isShare lkX10_238 dX10_mix_13 rfl rfl (j_isShare (by first | assumption | (unfold inI at *; omega))) ?_
    dsimp only [Option.toList, List.cons_append, List.nil_append]
    refine e_ifeqP (tgt := 27) dX10_mix_16 (by decide) (fun c16 => ?_) (fun c16 => ?_)
    · refine e_ldc2 (z := (-1000000000000000002)) kcX10_159 (by decide) dX10_mix_27 ?_
      refine e_lreturn dX10_mix_30 rfl ?_
      exact kQm_0 (by unfold a_mix; rw [if_pos (by omega)]) md
    · refine e_iload rfl dX10_mix_19 ?_
      refine eS1 mtX10_isEnd msX10_isEnd lkX10_124 dX10_mix_21 rfl rfl (j_isEnd (by first | assumption | (unfold inI at *; omega))) ?_
      dsimp only [Option.toList, List.cons_append, List.nil_append]
      refine e_ifneP (tgt := 31) dX10_mix_24 (by decide) (fun c24 => ?_) (fun c24 => ?_)
      · refine e_aload_n rfl dX10_mix_31 ?_
        refine e_iload_n rfl dX10_mix_32 ?_
        refine e_iload_n rfl dX10_mix_33 ?_
        refine e_iload_n rfl dX10_mix_34 ?_
        refine e_iload rfl dX10_mix_35 ?_
        refine e_iload rfl dX10_mix_37 ?_
        refine eV5 mtX10_findMix miX10_findMix lkX10_241 dX10_mix_39 kmh_97 rfl rfl rfl (j_findMix (by omega) (by omega) (by omega) (by omega) (by omega)) ?_
        dsimp only [Option.toList, List.cons_append, List.nil_append]
        have q1 := kg2_in (kcf_in (m := x) (w := w) (l := l) (by omega) (by omega)) (kcf_in (m := y) (w := w) (l := l) (by omega) (by omega)) (show 0 ≤ g by omega) (show g ≤ 100 by omega)
        have q2 := kg2_in (ksf_in (m := x) (w := w) (l := l) (by omega) (by omega)) (ksf_in (m := y) (w := w) (l := l) (by omega) (by omega)) (show 0 ≤ g by omega) (show g ≤ 100 by omega)
        refine e_ifeqP (tgt := 61) dX10_mix_42 (by decide) (fun c42 => ?_) (fun c42 => ?_)
        · 
          refine e_ldc2 (z := (-1000000000000000005)) kcX10_245 (by decide) dX10_mix_61 ?_
          refine e_lreturn dX10_mix_64 rfl ?_
          first
          | exact ⟨by unfold a_mix; rw [if_neg (by omega), if_pos (by omega)], rfl, _, _, rfl, (rMD_q md rfl rfl rfl rfl)⟩
          | exact ⟨by unfold a_mix; rw [if_neg (by omega), if_neg (by omega)], rfl, _, _, rfl, (rMD_q md rfl rfl rfl rfl)⟩
        · refine e_aload_n rfl dX10_mix_45 ?_
          refine e_getf fdX10_227 dX10_mix_46 kmh_97 rfl ?_
          rw [kq2_23]
          refine e_aload_n rfl dX10_mix_49 ?_
          refine e_getf fdX10_231 dX10_mix_50 kmh_97 rfl ?_
          rw [kq2_24]
          refine e_iload rfl dX10_mix_53 ?_
          refine eS3 mtX10_lowest msX10_lowest lkX10_161 dX10_mix_55 rfl rfl (j_lowest (by omega) (by omega) (by omega) (by omega) (by omega) (by omega)) ?_
          dsimp only [Option.toList, List.cons_append, List.nil_append]
          refine e_goto (tgt := 64) dX10_mix_58 (by decide) ?_
          refine e_lreturn dX10_mix_64 rfl ?_
          first
          | exact ⟨by unfold a_mix; rw [if_neg (by omega), if_pos (by omega)], rfl, _, _, rfl, (rMD_q md rfl rfl rfl rfl)⟩
          | exact ⟨by unfold a_mix; rw [if_neg (by omega), if_neg (by omega)], rfl, _, _, rfl, (rMD_q md rfl rfl rfl rfl)⟩
      · refine e_ldc2 (z := (-1000000000000000002)) kcX10_159 (by decide) dX10_mix_27 ?_
        refine e_lreturn dX10_mix_30 rfl ?_
        exact kQm_0 (by unfold a_mix; rw [if_pos (by omega)]) md
set_option maxHeartbeats 4000000 in
set_option maxRecDepth 100000 in
theorem j_fall {G : kG} {d : Nat} {h : Nat → Option kC} {n : Nat} {q : Nat → Int} {F : Nat → Nat → Int} {Z : kCs} (md : rMD q F Z) (ok : kCok Z)  {x : Int} (hx : inI x) {y : Int} (hy : inI y) {w : Int} (hw : inI w) {l : Int} (hl : inI l) {g : Int} (hg : inI g) {j : Int} (hj : inI j) {p : Int} (hp : inI p) : kCall G mX10_fall (d + 4) 0 0 [.ref (gB G + 97), .int (jI x), .int (jI y), .int (jI w), .int (jI l), .int (jI g), .int (jI j), .int (jI p)] (kmh G h q F) n (kQm G h n (.long (jL (a_fall Z x y w l g j p))) (Z)) := by
  show kE G mX10_fall (d + 4) 0 0 0 [some (.ref (gB G + 97)), some (.int (jI x)), some (.int (jI y)), some (.int (jI w)), some (.int (jI l)), some (.int (jI g)), some (.int (jI j)), some (.int (jI p)), none, none, none, none, none] [] (kmh G h q F) n _
  refine e_iload_n rfl dX10_fall_0 ?_
  refine e_iload_n rfl dX10_fall_1 ?_
  refine e_iload_n rfl dX10_fall_2 ?_
  refine e_iload rfl dX10_fall_3 ?_
  refine eS4 mtX10_areHumps msX10_areHumps lkX10_234 dX10_fall_5 rfl rfl (j_areHumps (by first | assumption | (unfold inI at *; omega)) (by first | assumption | (unfold inI at *; omega)) (by first | assumption | (unfold inI at *; omega)) (by first | assumption | (unfold inI at *; omega))) ?_
  dsimp only [Option.toList, List.cons_append, List.nil_append]
  refine e_ifeqP (tgt := 35) dX10_fall_8 (by decide) (fun c8 => ?_) (fun c8 => ?_)
  · refine e_ldc2 (z := (-1000000000000000002)) kcX10_159 (by decide) dX10_fall_35 ?_
    refine e_lreturn dX10_fall_38 rfl ?_
    exact kQm_0 (by unfold a_fall; rw [if_pos (by omega)]) md
  · refine e_iload rfl dX10_fall_11 ?_
    refine eS1 mtX10_isShare msX10_isShare lkX10_238 dX10_fall_13 rfl rfl (j_isShare (by first | assumption | (unfold inI at *; omega))) ?_
    dsimp only [Option.toList, List.cons_append, List.nil_append]
    refine e_ifeqP (tgt := 35) dX10_fall_16 (by decide) (fun c16 => ?_) (fun c16 => ?_)
    · refine e_ldc2 (z := (-1000000000000000002)) kcX10_159 (by decide) dX10_fall_35 ?_
      refine e_lreturn dX10_fall_38 rfl ?_
      exact kQm_0 (by unfold a_fall; rw [if_pos (by omega)]) md
    · refine e_iload rfl dX10_fall_19 ?_
      refine eS1 mtX10_isShare msX10_isShare lkX10_238 dX10_fall_21 rfl rfl (j_isShare (by first | assumption | (unfold inI at *; omega))) ?_
      dsimp only [Option.toList, List.cons_append, List.nil_append]
      refine e_ifeqP (tgt := 35) dX10_fall_24 (by decide) (fun c24 => ?_) (fun c24 => ?_)
      · refine e_ldc2 (z := (-1000000000000000002)) kcX10_159 (by decide) dX10_fall_35 ?_
        refine e_lreturn dX10_fall_38 rfl ?_
        exact kQm_0 (by unfold a_fall; rw [if_pos (by omega)]) md
      · refine e_iload rfl dX10_fall_27 ?_
        refine eS1 mtX10_isEnd msX10_isEnd lkX10_124 dX10_fall_29 rfl rfl (j_isEnd (by first | assumption | (unfold inI at *; omega))) ?_
        dsimp only [Option.toList, List.cons_append, List.nil_append]
        refine e_ifneP (tgt := 39) dX10_fall_32 (by decide) (fun c32 => ?_) (fun c32 => ?_)
        · refine e_aload_n rfl dX10_fall_39 ?_
          refine e_iload_n rfl dX10_fall_40 ?_
          refine e_iload_n rfl dX10_fall_41 ?_
          refine e_iload_n rfl dX10_fall_42 ?_
          refine e_iload rfl dX10_fall_43 ?_
          refine e_iload rfl dX10_fall_45 ?_
          refine eV5 mtX10_findMix miX10_findMix lkX10_241 dX10_fall_47 kmh_97 rfl rfl rfl (j_findMix (by omega) (by omega) (by omega) (by omega) (by omega)) ?_
          dsimp only [Option.toList, List.cons_append, List.nil_append]
          have q1 := kg2_in (kcf_in (m := x) (w := w) (l := l) (by omega) (by omega)) (kcf_in (m := y) (w := w) (l := l) (by omega) (by omega)) (show 0 ≤ g by omega) (show g ≤ 100 by omega)
          have q2 := kg2_in (ksf_in (m := x) (w := w) (l := l) (by omega) (by omega)) (ksf_in (m := y) (w := w) (l := l) (by omega) (by omega)) (show 0 ≤ g by omega) (show g ≤ 100 by omega)
          refine e_istore dX10_fall_50 rfl rfl ?_
          dsimp only [List.set]
          refine e_aload_n rfl dX10_fall_52 ?_
          refine e_getf fdX10_227 dX10_fall_53 kmh_97 rfl ?_
          rw [kq2_23]
          refine e_lstore dX10_fall_56 rfl rfl ?_
          dsimp only [List.set]
          refine e_aload_n rfl dX10_fall_58 ?_
          refine e_getf fdX10_231 dX10_fall_59 kmh_97 rfl ?_
          rw [kq2_24]
          refine e_lstore dX10_fall_62 rfl rfl ?_
          dsimp only [List.set]
          refine e_iload rfl dX10_fall_64 ?_
          refine e_ifeqP (tgt := 103) dX10_fall_66 (by decide) (fun c66 => ?_) (fun c66 => ?_)
          · refine e_ldc2 (z := (-1000000000000000005)) kcX10_245 (by decide) dX10_fall_103 ?_
            refine e_lreturn dX10_fall_106 rfl ?_
            first
            | exact ⟨by unfold a_fall; rw [if_neg (by omega)]; unfold w_fall; rw [if_pos (by omega)], rfl, _, _, rfl, (rMD_q md rfl rfl rfl rfl)⟩
            | exact ⟨by unfold a_fall; rw [if_neg (by omega)]; unfold w_fall; rw [if_neg (by omega)]; rfl, rfl, _, _, rfl, (rMD_q md rfl rfl rfl rfl)⟩
          · refine e_aload_n rfl dX10_fall_69 ?_
            refine e_iload_n rfl dX10_fall_70 ?_
            refine e_iload_n rfl dX10_fall_71 ?_
            refine e_iload_n rfl dX10_fall_72 ?_
            refine e_iload rfl dX10_fall_73 ?_
            refine e_iload rfl dX10_fall_75 ?_
            refine eV5 mtX10_findMix miX10_findMix lkX10_241 dX10_fall_77 kmh_97 rfl rfl rfl (j_findMix (by omega) (by omega) (by omega) (by omega) (by omega)) ?_
            dsimp only [Option.toList, List.cons_append, List.nil_append]
            have r1 := kg2_in (kcf_in (m := x) (w := w) (l := l) (by omega) (by omega)) (kcf_in (m := y) (w := w) (l := l) (by omega) (by omega)) (show 0 ≤ j by omega) (show j ≤ 100 by omega)
            have r2 := kg2_in (ksf_in (m := x) (w := w) (l := l) (by omega) (by omega)) (ksf_in (m := y) (w := w) (l := l) (by omega) (by omega)) (show 0 ≤ j by omega) (show j ≤ 100 by omega)
            refine e_ifeqP (tgt := 103) dX10_fall_80 (by decide) (fun c80 => ?_) (fun c80 => ?_)
            · refine e_ldc2 (z := (-1000000000000000005)) kcX10_245 (by decide) dX10_fall_103 ?_
              refine e_lreturn dX10_fall_106 rfl ?_
              first
              | exact ⟨by unfold a_fall; rw [if_neg (by omega)]; unfold w_fall; rw [if_pos (by omega)], rfl, _, _, rfl, (rMD_q md rfl rfl rfl rfl)⟩
              | exact ⟨by unfold a_fall; rw [if_neg (by omega)]; unfold w_fall; rw [if_neg (by omega)]; rfl, rfl, _, _, rfl, (rMD_q md rfl rfl rfl rfl)⟩
            · refine e_lload rfl dX10_fall_83 ?_
              refine e_lload rfl dX10_fall_85 ?_
              refine e_aload_n rfl dX10_fall_87 ?_
              refine e_getf fdX10_227 dX10_fall_88 kmh_97 rfl ?_
              rw [kq2_23]
              refine e_aload_n rfl dX10_fall_91 ?_
              refine e_getf fdX10_231 dX10_fall_92 kmh_97 rfl ?_
              rw [kq2_24]
              refine e_iload rfl dX10_fall_95 ?_
              refine eS5 mtX10_less msX10_less lkX10_247 dX10_fall_97 rfl rfl (j_less (by omega) (by omega) (by omega) (by omega) (by omega)) ?_
              dsimp only [Option.toList, List.cons_append, List.nil_append]
              refine e_goto (tgt := 106) dX10_fall_100 (by decide) ?_
              refine e_lreturn dX10_fall_106 rfl ?_
              first
              | exact ⟨by unfold a_fall; rw [if_neg (by omega)]; unfold w_fall; rw [if_pos (by omega)], rfl, _, _, rfl, (rMD_q md rfl rfl rfl rfl)⟩
              | exact ⟨by unfold a_fall; rw [if_neg (by omega)]; unfold w_fall; rw [if_neg (by omega)]; rfl, rfl, _, _, rfl, (rMD_q md rfl rfl rfl rfl)⟩
        · refine e_ldc2 (z := (-1000000000000000002)) kcX10_159 (by decide) dX10_fall_35 ?_
          refine e_lreturn dX10_fall_38 rfl ?_
          exact kQm_0 (by unfold a_fall; rw [if_pos (by omega)]) md
