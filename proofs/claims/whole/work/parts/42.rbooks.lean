/-! THE REFERENCE: sums over a BOOK -/
theorem kmul63 {x y : Int} (x0 : 0 ≤ x ∧ x ≤ 63) (y0 : 0 ≤ y ∧ y ≤ 999) : 0 ≤ x * y ∧ x * y ≤ 62937 := by
  have a1 := Int.mul_nonneg x0.1 y0.1
  have a2 : x * y ≤ 63 * 999 := Int.mul_le_mul x0.2 y0.2 y0.1 (by decide)
  omega
set_option maxHeartbeats 4000000 in
set_option maxRecDepth 100000 in
theorem j_all_lp {G : kG} {d : Nat} {h : Nat → Option kC} {n : Nat} {q : Nat → Int} {F : Nat → Nat → Int} {Z : kCs} (md : rMD q F Z) (ok : kCok Z) {b : Int} (hby : 0 ≤ b ∧ b ≤ 5)  : ∀ (f : Nat) (i : Nat) (z y : Int), z = (i : Int) → i ≤ 64 → 64 - (i : Int) ≤ f → y = ksum (hM (cN Z) b.toNat) i → kE G mX10_all (d + 1) 0 0 4 [some (.ref (gB G + 97)), some (.int (jI b)), some (.int (jI y)), some (.int (jI z))] [] (kmh G h q F) n (kre (some (.int (jI (ksum (hM (cN Z) b.toNat) 64)))) (kmh G h q F) n) := by
  have za := ok.1.1 b.toNat (by omega)
  have zA := kA_sum za
  intro f
  induction f with
  | zero =>
    intro i z y g1 g2 g3 g4
    refine e_iload_n rfl dX10_all_4 ?_
    refine e_bipush (by decide) dX10_all_5 ?_
    refine e_icmp_ge (tgt := 29) dX10_all_7 (by decide) (by first | assumption | (unfold inI at *; omega)) (by first | assumption | (unfold inI at *; omega)) (fun c7 => ?_) (fun c7 => ?_)
    · refine e_iload_n rfl dX10_all_29 ?_
      refine e_ireturn dX10_all_30 rfl rfl ?_
      exact ⟨by rw [g4, show i = 64 by omega], rfl, rfl⟩
    · exact absurd c7 (by omega)
  | succ f ih =>
    intro i z y g1 g2 g3 g4
    subst g1
    refine e_iload_n rfl dX10_all_4 ?_
    refine e_bipush (by decide) dX10_all_5 ?_
    refine e_icmp_ge (tgt := 29) dX10_all_7 (by decide) (by first | assumption | (unfold inI at *; omega)) (by first | assumption | (unfold inI at *; omega)) (fun c7 => ?_) (fun c7 => ?_)
    · refine e_iload_n rfl dX10_all_29 ?_
      refine e_ireturn dX10_all_30 rfl rfl ?_
      exact ⟨by rw [g4, show i = 64 by omega], rfl, rfl⟩
    · refine e_iload_n rfl dX10_all_10 ?_
      refine e_aload_n rfl dX10_all_11 ?_
      refine e_getf fdX10_7 dX10_all_12 kmh_97 rfl ?_
      refine e_iload_n rfl dX10_all_15 ?_
      refine e_iload_n rfl dX10_all_16 ?_
      refine eS2 mtX10_at msX10_at lkX10_85 dX10_all_17 rfl rfl j_at ?_
      dsimp only [Option.toList, List.cons_append, List.nil_append]
      refine e_mld (by first | exact ka98 | exact ka99 | exact ka100 | exact ka101 | exact ka102 | exact ka103 | exact ka104 | exact ka105 | exact ka106 | exact ka107 | exact ka108 | exact ka109 | exact ka110 | exact ka111 | exact ka112 | exact ka113) dX10_all_20 (by omega) (by omega) ?_
      rw [md_m md (by omega) (by omega), Int.toNat_natCast]
      have q7 := za i (by omega)
      refine e_iadd dX10_all_21 ?_
      refine e_istore_n dX10_all_22 rfl rfl ?_
      dsimp only [List.set]
      refine e_iinc dX10_all_23 rfl rfl ?_
      dsimp only [List.set]
      refine e_goto (tgt := 4) dX10_all_26 (by decide) ?_
      exact ih (i + 1) _ _ (by omega) (by omega) (by omega) (by rw [g4, ksum_s])
set_option maxHeartbeats 4000000 in
set_option maxRecDepth 100000 in
theorem j_all {G : kG} {d : Nat} {h : Nat → Option kC} {n : Nat} {q : Nat → Int} {F : Nat → Nat → Int} {Z : kCs} (md : rMD q F Z) (ok : kCok Z) {b : Int} (hby : 0 ≤ b ∧ b ≤ 5)  : kCall G mX10_all (d + 1) 0 0 [.ref (gB G + 97), .int (jI b)] (kmh G h q F) n (kre (some (.int (jI (ksum (hM (cN Z) b.toNat) 64)))) (kmh G h q F) n) := by
  show kE G mX10_all (d + 1) 0 0 0 [some (.ref (gB G + 97)), some (.int (jI b)), none, none] [] (kmh G h q F) n _
  refine e_iconst dX10_all_0 ?_
  refine e_istore_n dX10_all_1 rfl rfl ?_
  dsimp only [List.set]
  refine e_iconst dX10_all_2 ?_
  refine e_istore_n dX10_all_3 rfl rfl ?_
  dsimp only [List.set]
  exact j_all_lp md ok hby 100 0 _ _ (by omega) (by omega) (by omega) rfl
set_option maxHeartbeats 4000000 in
set_option maxRecDepth 100000 in
theorem j_sumOf_lp {G : kG} {d : Nat} {h : Nat → Option kC} {n : Nat} {q : Nat → Int} {F : Nat → Nat → Int} {Z : kCs} (md : rMD q F Z) (ok : kCok Z) {b : Int} (hby : 0 ≤ b ∧ b ≤ 5)  : ∀ (f : Nat) (i : Nat) (z y : Int), z = (i : Int) → i ≤ 64 → 64 - (i : Int) ≤ f → y = ksum (fun x => (hM (cN Z) b.toNat) x * kcl ((x : Int) + 0)) i → kE G mX10_sumOf (d + 1) 0 0 5 [some (.ref (gB G + 97)), some (.int (jI b)), some (.long (jL y)), none, some (.int (jI z))] [] (kmh G h q F) n (kre (some (.long (jL (ksm (hM (cN Z) b.toNat) 0)))) (kmh G h q F) n) := by
  have za := ok.1.1 b.toNat (by omega)
  have zA := kA_sum za
  intro f
  induction f with
  | zero =>
    intro i z y g1 g2 g3 g4
    refine e_iload rfl dX10_sumOf_5 ?_
    refine e_bipush (by decide) dX10_sumOf_7 ?_
    refine e_icmp_ge (tgt := 36) dX10_sumOf_9 (by decide) (by first | assumption | (unfold inI at *; omega)) (by first | assumption | (unfold inI at *; omega)) (fun c9 => ?_) (fun c9 => ?_)
    · refine e_lload_n rfl dX10_sumOf_36 ?_
      refine e_lreturn dX10_sumOf_37 rfl ?_
      exact ⟨by rw [g4, show i = 64 by omega]; rfl, rfl, rfl⟩
    · exact absurd c9 (by omega)
  | succ f ih =>
    intro i z y g1 g2 g3 g4
    subst g1
    refine e_iload rfl dX10_sumOf_5 ?_
    refine e_bipush (by decide) dX10_sumOf_7 ?_
    refine e_icmp_ge (tgt := 36) dX10_sumOf_9 (by decide) (by first | assumption | (unfold inI at *; omega)) (by first | assumption | (unfold inI at *; omega)) (fun c9 => ?_) (fun c9 => ?_)
    · refine e_lload_n rfl dX10_sumOf_36 ?_
      refine e_lreturn dX10_sumOf_37 rfl ?_
      exact ⟨by rw [g4, show i = 64 by omega]; rfl, rfl, rfl⟩
    · refine e_lload_n rfl dX10_sumOf_12 ?_
      refine e_iload rfl dX10_sumOf_13 ?_
      refine e_aload_n rfl dX10_sumOf_15 ?_
      refine e_getf fdX10_7 dX10_sumOf_16 kmh_97 rfl ?_
      refine e_iload_n rfl dX10_sumOf_19 ?_
      refine e_iload rfl dX10_sumOf_20 ?_
      refine eS2 mtX10_at msX10_at lkX10_85 dX10_sumOf_22 rfl rfl j_at ?_
      dsimp only [Option.toList, List.cons_append, List.nil_append]
      refine e_mld (by first | exact ka98 | exact ka99 | exact ka100 | exact ka101 | exact ka102 | exact ka103 | exact ka104 | exact ka105 | exact ka106 | exact ka107 | exact ka108 | exact ka109 | exact ka110 | exact ka111 | exact ka112 | exact ka113) dX10_sumOf_25 (by omega) (by omega) ?_
      rw [md_m md (by omega) (by omega), Int.toNat_natCast]
      have q7 := za i (by omega)
      have q6 := kmul63 (x := (i : Int)) (by omega) q7
      refine e_imul dX10_sumOf_26 ?_
      refine e_i2l (by first | assumption | (unfold inI at *; omega)) dX10_sumOf_27 ?_
      refine e_ladd dX10_sumOf_28 ?_
      refine e_lstore_n dX10_sumOf_29 rfl rfl ?_
      dsimp only [List.set]
      refine e_iinc dX10_sumOf_30 rfl rfl ?_
      dsimp only [List.set]
      refine e_goto (tgt := 5) dX10_sumOf_33 (by decide) ?_
      exact ih (i + 1) _ _ (by omega) (by omega) (by omega) (by rw [g4, ksum_s, Int.mul_comm ((hM (cN Z) b.toNat) i)]; congr 1; congr 1; unfold kcl; (repeat' split) <;> omega)
set_option maxHeartbeats 4000000 in
set_option maxRecDepth 100000 in
theorem j_sumOf {G : kG} {d : Nat} {h : Nat → Option kC} {n : Nat} {q : Nat → Int} {F : Nat → Nat → Int} {Z : kCs} (md : rMD q F Z) (ok : kCok Z) {b : Int} (hby : 0 ≤ b ∧ b ≤ 5)  : kCall G mX10_sumOf (d + 1) 0 0 [.ref (gB G + 97), .int (jI b)] (kmh G h q F) n (kre (some (.long (jL (ksm (hM (cN Z) b.toNat) 0)))) (kmh G h q F) n) := by
  show kE G mX10_sumOf (d + 1) 0 0 0 [some (.ref (gB G + 97)), some (.int (jI b)), none, none, none] [] (kmh G h q F) n _
  refine e_lconst (z := 0) (by decide) dX10_sumOf_0 ?_
  refine e_lstore_n dX10_sumOf_1 rfl rfl ?_
  dsimp only [List.set]
  refine e_iconst dX10_sumOf_2 ?_
  refine e_istore dX10_sumOf_3 rfl rfl ?_
  dsimp only [List.set]
  exact j_sumOf_lp md ok hby 100 0 _ _ (by omega) (by omega) (by omega) rfl
def kmd (A : Nat → Int) : Int := if ksum A 64 = 0 then -6 else kmo A 64
def kJo (A : Nat → Int) (i : Nat) (y : Int) : Prop := (y = -6 ∧ ∀ j, j < i → A j = 0) ∨ ((0 ≤ y ∧ y < i) ∧ y = kmo A i ∧ 0 < A y.toNat)
theorem kJo_s {A : Nat → Int} {i : Nat} {y : Int} (h : kJo A i y) (hi : 0 ≤ A i) : kJo A (i + 1) (if 0 < A i ∧ (y < 0 ∨ A y.toNat < A i) then (i : Int) else y) := by
  have hm := kmo_in A i
  have e1 : kmo A (i + 1) = if A (kmo A i).toNat < A i then (i : Int) else kmo A i := rfl
  rcases h with ⟨h1, h2⟩ | ⟨h1, h2, h3⟩
  · by_cases c : 0 < A i
    · rw [if_pos ⟨c, Or.inl (by omega)⟩]
      refine Or.inr ⟨by omega, ?_, by rw [Int.toNat_natCast]; exact c⟩
      rw [e1]
      by_cases e : i = 0
      · subst e
        split <;> omega
      · have := h2 (kmo A i).toNat (by omega)
        rw [if_pos (by omega)]
    · rw [if_neg (fun z => c z.1)]
      refine Or.inl ⟨h1, fun j hj => ?_⟩
      by_cases e : j = i
      · subst e; omega
      · exact h2 j (by omega)
  · by_cases c : A y.toNat < A i
    · rw [if_pos ⟨by omega, Or.inr c⟩]
      refine Or.inr ⟨by omega, ?_, by rw [Int.toNat_natCast]; omega⟩
      rw [e1, ← h2, if_pos c]
    · rw [if_neg (fun z => by omega)]
      refine Or.inr ⟨by omega, ?_, h3⟩
      rw [e1, ← h2, if_neg c]
theorem kJo_e {A : Nat → Int} (hA : kAok A) {y : Int} (h : kJo A 64 y) : y = kmd A := by
  unfold kmd
  rcases h with ⟨h1, h2⟩ | ⟨h1, h2, h3⟩
  · rw [if_pos, h1]
    exact (ksum_tail (a := 0) (Nat.zero_le _) (fun k _ h6 => h2 k h6))
  · rw [if_neg, h2]
    have := ksum_one (F := A) (n := 64) (j := y.toNat) (fun k hk => (hA k hk).1) (by omega)
    omega
set_option maxHeartbeats 4000000 in
set_option maxRecDepth 100000 in
theorem j_modeOf_lp {G : kG} {d : Nat} {h : Nat → Option kC} {n : Nat} {q : Nat → Int} {F : Nat → Nat → Int} {Z : kCs} (md : rMD q F Z) (ok : kCok Z) {b : Int} (hby : 0 ≤ b ∧ b ≤ 5)  : ∀ (f : Nat) (i : Nat) (z y : Int) (e4 : Option Value), z = (i : Int) → i ≤ 64 → 64 - (i : Int) ≤ f → kJo (hM (cN Z) b.toNat) i y → kE G mX10_modeOf (d + 1) 0 0 5 [some (.ref (gB G + 97)), some (.int (jI b)), some (.int (jI y)), some (.int (jI z)), e4] [] (kmh G h q F) n (kre (some (.int (jI (kmd (hM (cN Z) b.toNat))))) (kmh G h q F) n) := by
  have za := ok.1.1 b.toNat (by omega)
  have zA := kA_sum za
  intro f
  induction f with
  | zero =>
    intro i z y e4 g1 g2 g3 g4
    refine e_iload_n rfl dX10_modeOf_5 ?_
    refine e_bipush (by decide) dX10_modeOf_6 ?_
    refine e_icmp_ge (tgt := 59) dX10_modeOf_8 (by decide) (by first | assumption | (unfold inI at *; omega)) (by first | assumption | (unfold inI at *; omega)) (fun c8 => ?_) (fun c8 => ?_)
    · refine e_iload_n rfl dX10_modeOf_59 ?_
      refine e_ireturn dX10_modeOf_60 rfl rfl ?_
      exact ⟨by rw [kJo_e (y := y) za (by rw [← show i = 64 by omega]; exact g4)], rfl, rfl⟩
    · exact absurd c8 (by omega)
  | succ f ih =>
    intro i z y e4 g1 g2 g3 g4
    subst g1
    have q9 : y = -6 ∨ (0 ≤ y ∧ y < i) := by rcases g4 with g4 | g4 <;> omega
    refine e_iload_n rfl dX10_modeOf_5 ?_
    refine e_bipush (by decide) dX10_modeOf_6 ?_
    refine e_icmp_ge (tgt := 59) dX10_modeOf_8 (by decide) (by first | assumption | (unfold inI at *; omega)) (by first | assumption | (unfold inI at *; omega)) (fun c8 => ?_) (fun c8 => ?_)
    · refine e_iload_n rfl dX10_modeOf_59 ?_
      refine e_ireturn dX10_modeOf_60 rfl rfl ?_
      exact ⟨by rw [kJo_e (y := y) za (by rw [← show i = 64 by omega]; exact g4)], rfl, rfl⟩
    · refine e_aload_n rfl dX10_modeOf_11 ?_
      refine e_getf fdX10_7 dX10_modeOf_12 kmh_97 rfl ?_
      refine e_iload_n rfl dX10_modeOf_15 ?_
      refine e_iload_n rfl dX10_modeOf_16 ?_
      refine eS2 mtX10_at msX10_at lkX10_85 dX10_modeOf_17 rfl rfl j_at ?_
      dsimp only [Option.toList, List.cons_append, List.nil_append]
      refine e_mld (by first | exact ka98 | exact ka99 | exact ka100 | exact ka101 | exact ka102 | exact ka103 | exact ka104 | exact ka105 | exact ka106 | exact ka107 | exact ka108 | exact ka109 | exact ka110 | exact ka111 | exact ka112 | exact ka113) dX10_modeOf_20 (by omega) (by omega) ?_
      rw [md_m md (by omega) (by omega), Int.toNat_natCast]
      have q7 := za i (by omega)
      have q6 := kJo_s g4 q7.1
      refine e_istore dX10_modeOf_21 rfl rfl ?_
      dsimp only [List.set]
      refine e_iload rfl dX10_modeOf_23 ?_
      refine e_if_le (tgt := 51) dX10_modeOf_25 (by decide) (by first | assumption | (unfold inI at *; omega)) (fun c25 => ?_) (fun c25 => ?_)
      · refine e_iload_n rfl dX10_modeOf_51 ?_
        refine e_istore_n dX10_modeOf_52 rfl rfl ?_
        dsimp only [List.set]
        refine e_iinc dX10_modeOf_53 rfl rfl ?_
        dsimp only [List.set]
        refine e_goto (tgt := 5) dX10_modeOf_56 (by decide) ?_
        first | (rw [if_pos (by omega)] at q6; exact ih (i + 1) _ _ _ (by omega) (by omega) (by omega) q6) | (rw [if_neg (by omega)] at q6; exact ih (i + 1) _ _ _ (by omega) (by omega) (by omega) q6)
      · refine e_iload_n rfl dX10_modeOf_28 ?_
        refine e_if_lt (tgt := 47) dX10_modeOf_29 (by decide) (by first | assumption | (unfold inI at *; omega)) (fun c29 => ?_) (fun c29 => ?_)
        · refine e_iload_n rfl dX10_modeOf_47 ?_
          refine e_goto (tgt := 52) dX10_modeOf_48 (by decide) ?_
          refine e_istore_n dX10_modeOf_52 rfl rfl ?_
          dsimp only [List.set]
          refine e_iinc dX10_modeOf_53 rfl rfl ?_
          dsimp only [List.set]
          refine e_goto (tgt := 5) dX10_modeOf_56 (by decide) ?_
          first | (rw [if_pos (by omega)] at q6; exact ih (i + 1) _ _ _ (by omega) (by omega) (by omega) q6) | (rw [if_neg (by omega)] at q6; exact ih (i + 1) _ _ _ (by omega) (by omega) (by omega) q6)
        · refine e_iload rfl dX10_modeOf_32 ?_
          refine e_aload_n rfl dX10_modeOf_34 ?_
          refine e_getf fdX10_7 dX10_modeOf_35 kmh_97 rfl ?_
          refine e_iload_n rfl dX10_modeOf_38 ?_
          refine e_iload_n rfl dX10_modeOf_39 ?_
          refine eS2 mtX10_at msX10_at lkX10_85 dX10_modeOf_40 rfl rfl j_at ?_
          dsimp only [Option.toList, List.cons_append, List.nil_append]
          refine e_mld (by first | exact ka98 | exact ka99 | exact ka100 | exact ka101 | exact ka102 | exact ka103 | exact ka104 | exact ka105 | exact ka106 | exact ka107 | exact ka108 | exact ka109 | exact ka110 | exact ka111 | exact ka112 | exact ka113) dX10_modeOf_43 (by omega) (by omega) ?_
          rw [md_m md (by omega) (by omega)]
          have q5 := za y.toNat (by omega)
          refine e_icmp_le (tgt := 51) dX10_modeOf_44 (by decide) (by first | assumption | (unfold inI at *; omega)) (by first | assumption | (unfold inI at *; omega)) (fun c44 => ?_) (fun c44 => ?_)
          · refine e_iload_n rfl dX10_modeOf_51 ?_
            refine e_istore_n dX10_modeOf_52 rfl rfl ?_
            dsimp only [List.set]
            refine e_iinc dX10_modeOf_53 rfl rfl ?_
            dsimp only [List.set]
            refine e_goto (tgt := 5) dX10_modeOf_56 (by decide) ?_
            first | (rw [if_pos (by omega)] at q6; exact ih (i + 1) _ _ _ (by omega) (by omega) (by omega) q6) | (rw [if_neg (by omega)] at q6; exact ih (i + 1) _ _ _ (by omega) (by omega) (by omega) q6)
          · refine e_iload_n rfl dX10_modeOf_47 ?_
            refine e_goto (tgt := 52) dX10_modeOf_48 (by decide) ?_
            refine e_istore_n dX10_modeOf_52 rfl rfl ?_
            dsimp only [List.set]
            refine e_iinc dX10_modeOf_53 rfl rfl ?_
            dsimp only [List.set]
            refine e_goto (tgt := 5) dX10_modeOf_56 (by decide) ?_
            first | (rw [if_pos (by omega)] at q6; exact ih (i + 1) _ _ _ (by omega) (by omega) (by omega) q6) | (rw [if_neg (by omega)] at q6; exact ih (i + 1) _ _ _ (by omega) (by omega) (by omega) q6)
set_option maxHeartbeats 4000000 in
set_option maxRecDepth 100000 in
theorem j_modeOf {G : kG} {d : Nat} {h : Nat → Option kC} {n : Nat} {q : Nat → Int} {F : Nat → Nat → Int} {Z : kCs} (md : rMD q F Z) (ok : kCok Z) {b : Int} (hby : 0 ≤ b ∧ b ≤ 5)  : kCall G mX10_modeOf (d + 1) 0 0 [.ref (gB G + 97), .int (jI b)] (kmh G h q F) n (kre (some (.int (jI (kmd (hM (cN Z) b.toNat))))) (kmh G h q F) n) := by
  show kE G mX10_modeOf (d + 1) 0 0 0 [some (.ref (gB G + 97)), some (.int (jI b)), none, none, none] [] (kmh G h q F) n _
  refine e_bipush (by decide) dX10_modeOf_0 ?_
  refine e_istore_n dX10_modeOf_2 rfl rfl ?_
  dsimp only [List.set]
  refine e_iconst dX10_modeOf_3 ?_
  refine e_istore_n dX10_modeOf_4 rfl rfl ?_
  dsimp only [List.set]
  exact j_modeOf_lp md ok hby 100 0 _ _ none (by omega) (by omega) (by omega) (Or.inl ⟨rfl, fun j hj => absurd hj (Nat.not_lt_zero j)⟩)
set_option maxHeartbeats 4000000 in
set_option maxRecDepth 100000 in
theorem j_mean {G : kG} {d : Nat} {h : Nat → Option kC} {n : Nat} {q : Nat → Int} {F : Nat → Nat → Int} {Z : kCs} (md : rMD q F Z) (ok : kCok Z)  {b : Int} (hb : inI b) {p : Int} (hp : inI p) : kCall G mX10_mean (d + 4) 0 0 [.ref (gB G + 97), .int (jI b), .int (jI p)] (kmh G h q F) n (kQm G h n (.long (jL (a_mean Z b p))) (Z)) := by
  show kE G mX10_mean (d + 4) 0 0 0 [some (.ref (gB G + 97)), some (.int (jI b)), some (.int (jI p))] [] (kmh G h q F) n _
  refine e_iload_n rfl dX10_mean_0 ?_
  refine eS1 mtX10_isBook msX10_isBook lkX10_76 dX10_mean_1 rfl rfl (j_isBook (by first | assumption | (unfold inI at *; omega))) ?_
  dsimp only [Option.toList, List.cons_append, List.nil_append]
  refine e_ifneP (tgt := 11) dX10_mean_4 (by decide) (fun c4 => ?_) (fun c4 => ?_)
  · refine e_iload_n rfl dX10_mean_11 ?_
    refine eS1 mtX10_isEnd msX10_isEnd lkX10_124 dX10_mean_12 rfl rfl (j_isEnd (by first | assumption | (unfold inI at *; omega))) ?_
    dsimp only [Option.toList, List.cons_append, List.nil_append]
    refine e_ifeqP (tgt := 36) dX10_mean_15 (by decide) (fun c15 => ?_) (fun c15 => ?_)
    · refine e_ldc2 (z := (-1000000000000000002)) kcX10_159 (by decide) dX10_mean_36 ?_
      refine e_lreturn dX10_mean_39 rfl ?_
      exact kQm_0 (by unfold a_mean; (repeat' split) <;> first | rfl | (exfalso; omega)) md
    · refine e_aload_n rfl dX10_mean_18 ?_
      refine e_iload_n rfl dX10_mean_19 ?_
      refine eV1 mtX10_sumOf miX10_sumOf lkX10_264 dX10_mean_20 kmh_97 rfl rfl rfl (j_sumOf md ok (by omega)) ?_
      dsimp only [Option.toList, List.cons_append, List.nil_append]
      have q8 := ksm_in (ok.1.1 b.toNat (by omega)) 0
      have q6 := kA_sum (ok.1.1 b.toNat (by omega))
      refine e_aload_n rfl dX10_mean_23 ?_
      refine e_iload_n rfl dX10_mean_24 ?_
      refine eV1 mtX10_all miX10_all lkX10_172 dX10_mean_25 kmh_97 rfl rfl rfl (j_all md ok (by omega)) ?_
      dsimp only [Option.toList, List.cons_append, List.nil_append]
      refine e_i2l (by first | assumption | (unfold inI at *; omega)) dX10_mean_28 ?_
      refine e_iload_n rfl dX10_mean_29 ?_
      refine eS3 mtX10_lowest msX10_lowest lkX10_161 dX10_mean_30 rfl rfl (j_lowest (by omega) (by omega) (by omega) (by omega) (by omega) (by omega)) ?_
      dsimp only [Option.toList, List.cons_append, List.nil_append]
      refine e_goto (tgt := 39) dX10_mean_33 (by decide) ?_
      refine e_lreturn dX10_mean_39 rfl ?_
      exact kQm_0 (by unfold a_mean; (repeat' split) <;> first | rfl | (exfalso; omega)) md
  · refine e_ldc2 (z := (-1000000000000000001)) kcX10_216 (by decide) dX10_mean_7 ?_
    refine e_lreturn dX10_mean_10 rfl ?_
    exact kQm_0 (by unfold a_mean; (repeat' split) <;> first | rfl | (exfalso; omega)) md
set_option maxHeartbeats 4000000 in
set_option maxRecDepth 100000 in
theorem j_mode {G : kG} {d : Nat} {h : Nat → Option kC} {n : Nat} {q : Nat → Int} {F : Nat → Nat → Int} {Z : kCs} (md : rMD q F Z) (ok : kCok Z)  {b : Int} (hb : inI b) : kCall G mX10_mode (d + 4) 0 0 [.ref (gB G + 97), .int (jI b)] (kmh G h q F) n (kQm G h n (.int (jI (a_mode Z b))) (Z)) := by
  show kE G mX10_mode (d + 4) 0 0 0 [some (.ref (gB G + 97)), some (.int (jI b))] [] (kmh G h q F) n _
  refine e_iload_n rfl dX10_mode_0 ?_
  refine eS1 mtX10_isBook msX10_isBook lkX10_76 dX10_mode_1 rfl rfl (j_isBook (by first | assumption | (unfold inI at *; omega))) ?_
  dsimp only [Option.toList, List.cons_append, List.nil_append]
  refine e_ifeqP (tgt := 15) dX10_mode_4 (by decide) (fun c4 => ?_) (fun c4 => ?_)
  · refine e_iconst dX10_mode_15 ?_
    refine e_ireturn dX10_mode_16 rfl rfl ?_
    exact kQm_0 (by unfold a_mode; first | rw [if_pos (by omega)] | (rw [if_neg (by omega)]; rfl)) md
  · refine e_aload_n rfl dX10_mode_7 ?_
    refine e_iload_n rfl dX10_mode_8 ?_
    refine eV1 mtX10_modeOf miX10_modeOf lkX10_268 dX10_mode_9 kmh_97 rfl rfl rfl (j_modeOf md ok (by omega)) ?_
    dsimp only [Option.toList, List.cons_append, List.nil_append]
    refine e_goto (tgt := 16) dX10_mode_12 (by decide) ?_
    refine e_ireturn dX10_mode_16 rfl rfl ?_
    exact kQm_0 (by unfold a_mode; first | rw [if_pos (by omega)] | (rw [if_neg (by omega)]; rfl)) md
set_option maxHeartbeats 4000000 in
set_option maxRecDepth 100000 in
theorem j_pile_lp {G : kG} {d : Nat} {h : Nat → Option kC} {n : Nat} {q : Nat → Int} {F : Nat → Nat → Int} {Z : kCs} (md : rMD q F Z) (ok : kCok Z) {b : Int} (hby : 0 ≤ b ∧ b ≤ 5) {p : Int} (hp : 0 ≤ p ∧ p ≤ 1)  : ∀ (f : Nat) (i : Nat) (z y : Int), z = 4 * (i : Int) → i ≤ 16 → 16 - (i : Int) ≤ f → y = ksum (fun k => (hM (cN Z) b.toNat) (4 * k)) i → kE G mX10_pile (d + 4) 0 0 27 [some (.ref (gB G + 97)), some (.int (jI b)), some (.int (jI p)), some (.long (jL y)), none, some (.int (jI z))] [] (kmh G h q F) n (kQm G h n (.long (jL (a_pile Z b p))) (Z)) := by
  have za := ok.1.1 b.toNat (by omega)
  have zA := kA_sum za
  intro f
  induction f with
  | zero =>
    intro i z y g1 g2 g3 g4
    refine e_iload rfl dX10_pile_27 ?_
    refine e_bipush (by decide) dX10_pile_29 ?_
    refine e_icmp_ge (tgt := 55) dX10_pile_31 (by decide) (by first | assumption | (unfold inI at *; omega)) (by first | assumption | (unfold inI at *; omega)) (fun c31 => ?_) (fun c31 => ?_)
    · have q8 := kin_in za
      have q5 : y = ksum (fun k => (hM (cN Z) b.toNat) (4 * k)) 16 := by rw [g4, show i = 16 by omega]
      refine e_ldc2 (z := 4) kcX10_97 (by decide) dX10_pile_55 ?_
      refine e_lload_n rfl dX10_pile_58 ?_
      refine e_lmul dX10_pile_59 ?_
      refine e_aload_n rfl dX10_pile_60 ?_
      refine e_iload_n rfl dX10_pile_61 ?_
      refine eV1 mtX10_all miX10_all lkX10_172 dX10_pile_62 kmh_97 rfl rfl rfl (j_all md ok (by omega)) ?_
      dsimp only [Option.toList, List.cons_append, List.nil_append]
      refine e_i2l (by first | assumption | (unfold inI at *; omega)) dX10_pile_65 ?_
      refine e_iload_n rfl dX10_pile_66 ?_
      refine eS3 mtX10_lowest msX10_lowest lkX10_161 dX10_pile_67 rfl rfl (j_lowest (by omega) (by omega) (by omega) (by omega) (by omega) (by omega)) ?_
      dsimp only [Option.toList, List.cons_append, List.nil_append]
      refine e_lreturn dX10_pile_70 rfl ?_
      exact kQm_0 (by rw [g4, show i = 16 by omega]; unfold a_pile; rw [if_neg (by omega), if_neg (by omega)]) md
    · exact absurd c31 (by omega)
  | succ f ih =>
    intro i z y g1 g2 g3 g4
    refine e_iload rfl dX10_pile_27 ?_
    refine e_bipush (by decide) dX10_pile_29 ?_
    refine e_icmp_ge (tgt := 55) dX10_pile_31 (by decide) (by first | assumption | (unfold inI at *; omega)) (by first | assumption | (unfold inI at *; omega)) (fun c31 => ?_) (fun c31 => ?_)
    · have q8 := kin_in za
      have q5 : y = ksum (fun k => (hM (cN Z) b.toNat) (4 * k)) 16 := by rw [g4, show i = 16 by omega]
      refine e_ldc2 (z := 4) kcX10_97 (by decide) dX10_pile_55 ?_
      refine e_lload_n rfl dX10_pile_58 ?_
      refine e_lmul dX10_pile_59 ?_
      refine e_aload_n rfl dX10_pile_60 ?_
      refine e_iload_n rfl dX10_pile_61 ?_
      refine eV1 mtX10_all miX10_all lkX10_172 dX10_pile_62 kmh_97 rfl rfl rfl (j_all md ok (by omega)) ?_
      dsimp only [Option.toList, List.cons_append, List.nil_append]
      refine e_i2l (by first | assumption | (unfold inI at *; omega)) dX10_pile_65 ?_
      refine e_iload_n rfl dX10_pile_66 ?_
      refine eS3 mtX10_lowest msX10_lowest lkX10_161 dX10_pile_67 rfl rfl (j_lowest (by omega) (by omega) (by omega) (by omega) (by omega) (by omega)) ?_
      dsimp only [Option.toList, List.cons_append, List.nil_append]
      refine e_lreturn dX10_pile_70 rfl ?_
      exact kQm_0 (by rw [g4, show i = 16 by omega]; unfold a_pile; rw [if_neg (by omega), if_neg (by omega)]) md
    · refine e_lload_n rfl dX10_pile_34 ?_
      refine e_aload_n rfl dX10_pile_35 ?_
      refine e_getf fdX10_7 dX10_pile_36 kmh_97 rfl ?_
      refine e_iload_n rfl dX10_pile_39 ?_
      refine e_iload rfl dX10_pile_40 ?_
      refine eS2 mtX10_at msX10_at lkX10_85 dX10_pile_42 rfl rfl j_at ?_
      dsimp only [Option.toList, List.cons_append, List.nil_append]
      refine e_mld (by first | exact ka98 | exact ka99 | exact ka100 | exact ka101 | exact ka102 | exact ka103 | exact ka104 | exact ka105 | exact ka106 | exact ka107 | exact ka108 | exact ka109 | exact ka110 | exact ka111 | exact ka112 | exact ka113) dX10_pile_45 (by omega) (by omega) ?_
      rw [md_m md (by omega) (by omega), show z.toNat = 4 * i by omega]
      have q7 := za (4 * i) (by omega)
      refine e_i2l (by first | assumption | (unfold inI at *; omega)) dX10_pile_46 ?_
      refine e_ladd dX10_pile_47 ?_
      refine e_lstore_n dX10_pile_48 rfl rfl ?_
      dsimp only [List.set]
      refine e_iinc dX10_pile_49 rfl rfl ?_
      dsimp only [List.set]
      refine e_goto (tgt := 27) dX10_pile_52 (by decide) ?_
      exact ih (i + 1) _ _ (by omega) (by omega) (by omega) (by rw [g4, ksum_s])
set_option maxHeartbeats 4000000 in
set_option maxRecDepth 100000 in
theorem j_pile {G : kG} {d : Nat} {h : Nat → Option kC} {n : Nat} {q : Nat → Int} {F : Nat → Nat → Int} {Z : kCs} (md : rMD q F Z) (ok : kCok Z)  {b : Int} (hb : inI b) {p : Int} (hp : inI p) : kCall G mX10_pile (d + 4) 0 0 [.ref (gB G + 97), .int (jI b), .int (jI p)] (kmh G h q F) n (kQm G h n (.long (jL (a_pile Z b p))) (Z)) := by
  show kE G mX10_pile (d + 4) 0 0 0 [some (.ref (gB G + 97)), some (.int (jI b)), some (.int (jI p)), none, none, none] [] (kmh G h q F) n _
  refine e_iload_n rfl dX10_pile_0 ?_
  refine eS1 mtX10_isBook msX10_isBook lkX10_76 dX10_pile_1 rfl rfl (j_isBook (by first | assumption | (unfold inI at *; omega))) ?_
  dsimp only [Option.toList, List.cons_append, List.nil_append]
  refine e_ifneP (tgt := 11) dX10_pile_4 (by decide) (fun c4 => ?_) (fun c4 => ?_)
  · refine e_iload_n rfl dX10_pile_11 ?_
    refine eS1 mtX10_isEnd msX10_isEnd lkX10_124 dX10_pile_12 rfl rfl (j_isEnd (by first | assumption | (unfold inI at *; omega))) ?_
    dsimp only [Option.toList, List.cons_append, List.nil_append]
    refine e_ifneP (tgt := 22) dX10_pile_15 (by decide) (fun c15 => ?_) (fun c15 => ?_)
    · refine e_lconst (z := 0) (by decide) dX10_pile_22 ?_
      refine e_lstore_n dX10_pile_23 rfl rfl ?_
      dsimp only [List.set]
      refine e_iconst dX10_pile_24 ?_
      refine e_istore dX10_pile_25 rfl rfl ?_
      dsimp only [List.set]
      exact j_pile_lp md ok (by omega) (by omega) 100 0 _ _ (by omega) (by omega) (by omega) rfl
    · refine e_ldc2 (z := (-1000000000000000002)) kcX10_159 (by decide) dX10_pile_18 ?_
      refine e_lreturn dX10_pile_21 rfl ?_
      exact kQm_0 (by unfold a_pile; (repeat' split) <;> first | rfl | (exfalso; omega)) md
  · refine e_ldc2 (z := (-1000000000000000001)) kcX10_216 (by decide) dX10_pile_7 ?_
    refine e_lreturn dX10_pile_10 rfl ?_
    exact kQm_0 (by unfold a_pile; (repeat' split) <;> first | rfl | (exfalso; omega)) md
set_option maxHeartbeats 4000000 in
set_option maxRecDepth 100000 in
theorem j_about_lp {G : kG} {d : Nat} {h : Nat → Option kC} {n : Nat} {q : Nat → Int} {F : Nat → Nat → Int} {Z : kCs} (md : rMD q F Z) (ok : kCok Z) {b : Int} (hby : 0 ≤ b ∧ b ≤ 5) {x e p : Int} (hx : 0 ≤ x ∧ x ≤ 8) (he : 0 ≤ e ∧ e ≤ 1) (hp : 0 ≤ p ∧ p ≤ 1) (hk : hE (cN Z) b.toNat 2 = 2)  : ∀ (f : Nat) (i : Nat) (z y : Int) (e8 : Option Value), z = (i : Int) → i ≤ 64 → 64 - (i : Int) ≤ f → y = ksum (fun k : Nat => (hM (cN Z) b.toNat) k * kcl ((k : Int) + (if e = 0 then -x else x))) i → kE G mX10_about (d + 4) 0 0 62 [some (.ref (gB G + 97)), some (.int (jI b)), some (.int (jI x)), some (.int (jI e)), some (.int (jI p)), some (.long (jL y)), none, some (.int (jI z)), e8] [] (kmh G h q F) n (kQm G h n (.long (jL (a_about Z b x e p))) (Z)) := by
  have za := ok.1.1 b.toNat (by omega)
  have zA := kA_sum za
  intro f
  induction f with
  | zero =>
    intro i z y e8 g1 g2 g3 g4
    refine e_iload rfl dX10_about_62 ?_
    refine e_bipush (by decide) dX10_about_64 ?_
    refine e_icmp_ge (tgt := 133) dX10_about_66 (by decide) (by first | assumption | (unfold inI at *; omega)) (by first | assumption | (unfold inI at *; omega)) (fun c66 => ?_) (fun c66 => ?_)
    · have q8 := ksm_in za (if e = 0 then -x else x)
      have q5 : y = ksm (hM (cN Z) b.toNat) (if e = 0 then -x else x) := by rw [g4, show i = 64 by omega]; rfl
      refine e_lload rfl dX10_about_133 ?_
      refine e_aload_n rfl dX10_about_135 ?_
      refine e_iload_n rfl dX10_about_136 ?_
      refine eV1 mtX10_all miX10_all lkX10_172 dX10_about_137 kmh_97 rfl rfl rfl (j_all md ok (by omega)) ?_
      dsimp only [Option.toList, List.cons_append, List.nil_append]
      refine e_i2l (by first | assumption | (unfold inI at *; omega)) dX10_about_140 ?_
      refine e_iload rfl dX10_about_141 ?_
      refine eS3 mtX10_lowest msX10_lowest lkX10_161 dX10_about_143 rfl rfl (j_lowest (by omega) (by omega) (by omega) (by omega) (by omega) (by omega)) ?_
      dsimp only [Option.toList, List.cons_append, List.nil_append]
      refine e_lreturn dX10_about_146 rfl ?_
      have e9 : a_about Z b x e p = ktl (ksm (hM (cN Z) b.toNat) (if e = 0 then -x else x)) (ksum (hM (cN Z) b.toNat) 64) p := (if_neg (by omega)).trans ((if_neg (by omega)).trans (if_neg (by omega)))
      exact kQm_0 (by rw [e9, q5]) md
    · exact absurd c66 (by omega)
  | succ f ih =>
    intro i z y e8 g1 g2 g3 g4
    subst g1
    refine e_iload rfl dX10_about_62 ?_
    refine e_bipush (by decide) dX10_about_64 ?_
    refine e_icmp_ge (tgt := 133) dX10_about_66 (by decide) (by first | assumption | (unfold inI at *; omega)) (by first | assumption | (unfold inI at *; omega)) (fun c66 => ?_) (fun c66 => ?_)
    · have q8 := ksm_in za (if e = 0 then -x else x)
      have q5 : y = ksm (hM (cN Z) b.toNat) (if e = 0 then -x else x) := by rw [g4, show i = 64 by omega]; rfl
      refine e_lload rfl dX10_about_133 ?_
      refine e_aload_n rfl dX10_about_135 ?_
      refine e_iload_n rfl dX10_about_136 ?_
      refine eV1 mtX10_all miX10_all lkX10_172 dX10_about_137 kmh_97 rfl rfl rfl (j_all md ok (by omega)) ?_
      dsimp only [Option.toList, List.cons_append, List.nil_append]
      refine e_i2l (by first | assumption | (unfold inI at *; omega)) dX10_about_140 ?_
      refine e_iload rfl dX10_about_141 ?_
      refine eS3 mtX10_lowest msX10_lowest lkX10_161 dX10_about_143 rfl rfl (j_lowest (by omega) (by omega) (by omega) (by omega) (by omega) (by omega)) ?_
      dsimp only [Option.toList, List.cons_append, List.nil_append]
      refine e_lreturn dX10_about_146 rfl ?_
      have e9 : a_about Z b x e p = ktl (ksm (hM (cN Z) b.toNat) (if e = 0 then -x else x)) (ksum (hM (cN Z) b.toNat) 64) p := (if_neg (by omega)).trans ((if_neg (by omega)).trans (if_neg (by omega)))
      exact kQm_0 (by rw [e9, q5]) md
    · refine e_iload_n rfl dX10_about_69 ?_
      refine e_if_ne (tgt := 80) dX10_about_70 (by decide) (by first | assumption | (unfold inI at *; omega)) (fun c70 => ?_) (fun c70 => ?_)
      · refine e_iload rfl dX10_about_80 ?_
        refine e_iload_n rfl dX10_about_82 ?_
        refine e_iadd dX10_about_83 ?_
        refine e_istore dX10_about_84 rfl rfl ?_
        dsimp only [List.set]
        refine e_lload rfl dX10_about_86 ?_
        refine e_iload rfl dX10_about_88 ?_
        refine e_if_ge (tgt := 97) dX10_about_90 (by decide) (by first | assumption | (unfold inI at *; omega)) (fun c90 => ?_) (fun c90 => ?_)
        · refine e_iload rfl dX10_about_97 ?_
          refine e_bipush (by decide) dX10_about_99 ?_
          refine e_icmp_le (tgt := 109) dX10_about_101 (by decide) (by first | assumption | (unfold inI at *; omega)) (by first | assumption | (unfold inI at *; omega)) (fun c101 => ?_) (fun c101 => ?_)
          · refine e_iload rfl dX10_about_109 ?_
            refine e_aload_n rfl dX10_about_111 ?_
            refine e_getf fdX10_7 dX10_about_112 kmh_97 rfl ?_
            refine e_iload_n rfl dX10_about_115 ?_
            refine e_iload rfl dX10_about_116 ?_
            refine eS2 mtX10_at msX10_at lkX10_85 dX10_about_118 rfl rfl j_at ?_
            dsimp only [Option.toList, List.cons_append, List.nil_append]
            refine e_mld (by first | exact ka98 | exact ka99 | exact ka100 | exact ka101 | exact ka102 | exact ka103 | exact ka104 | exact ka105 | exact ka106 | exact ka107 | exact ka108 | exact ka109 | exact ka110 | exact ka111 | exact ka112 | exact ka113) dX10_about_121 (by omega) (by omega) ?_
            rw [md_m md (by omega) (by omega), Int.toNat_natCast]
            have q7 := za i (by omega)
            have q6 := fun v h1 => kmul63 (x := v) h1 q7
            refine e_imul dX10_about_122 ?_
            
            refine e_i2l (by first | (have := q6 0 (by omega); unfold inI; omega) | (have := q6 63 (by omega); unfold inI; omega) | (have := q6 ((i : Int) - x) (by omega); unfold inI; omega) | (have := q6 ((i : Int) + x) (by omega); unfold inI; omega)) dX10_about_123 ?_
            refine e_ladd dX10_about_124 ?_
            refine e_lstore dX10_about_125 rfl rfl ?_
            dsimp only [List.set]
            refine e_iinc dX10_about_127 rfl rfl ?_
            dsimp only [List.set]
            refine e_goto (tgt := 62) dX10_about_130 (by decide) ?_
            refine ih (i + 1) _ _ _ (by omega) (by omega) (by omega) ?_
            rw [g4, ksum_s, Int.mul_comm ((hM (cN Z) b.toNat) i)]
            congr 1
            congr 1
            first | rw [if_pos (by assumption)] | rw [if_neg (by assumption)]
            unfold kcl
            (repeat' split) <;> omega
          · refine e_bipush (by decide) dX10_about_104 ?_
            refine e_goto (tgt := 111) dX10_about_106 (by decide) ?_
            refine e_aload_n rfl dX10_about_111 ?_
            refine e_getf fdX10_7 dX10_about_112 kmh_97 rfl ?_
            refine e_iload_n rfl dX10_about_115 ?_
            refine e_iload rfl dX10_about_116 ?_
            refine eS2 mtX10_at msX10_at lkX10_85 dX10_about_118 rfl rfl j_at ?_
            dsimp only [Option.toList, List.cons_append, List.nil_append]
            refine e_mld (by first | exact ka98 | exact ka99 | exact ka100 | exact ka101 | exact ka102 | exact ka103 | exact ka104 | exact ka105 | exact ka106 | exact ka107 | exact ka108 | exact ka109 | exact ka110 | exact ka111 | exact ka112 | exact ka113) dX10_about_121 (by omega) (by omega) ?_
            rw [md_m md (by omega) (by omega), Int.toNat_natCast]
            have q7 := za i (by omega)
            have q6 := fun v h1 => kmul63 (x := v) h1 q7
            refine e_imul dX10_about_122 ?_
            
            refine e_i2l (by first | (have := q6 0 (by omega); unfold inI; omega) | (have := q6 63 (by omega); unfold inI; omega) | (have := q6 ((i : Int) - x) (by omega); unfold inI; omega) | (have := q6 ((i : Int) + x) (by omega); unfold inI; omega)) dX10_about_123 ?_
            refine e_ladd dX10_about_124 ?_
            refine e_lstore dX10_about_125 rfl rfl ?_
            dsimp only [List.set]
            refine e_iinc dX10_about_127 rfl rfl ?_
            dsimp only [List.set]
            refine e_goto (tgt := 62) dX10_about_130 (by decide) ?_
            refine ih (i + 1) _ _ _ (by omega) (by omega) (by omega) ?_
            rw [g4, ksum_s, Int.mul_comm ((hM (cN Z) b.toNat) i)]
            congr 1
            congr 1
            first | rw [if_pos (by assumption)] | rw [if_neg (by assumption)]
            unfold kcl
            (repeat' split) <;> omega
        · refine e_iconst dX10_about_93 ?_
          refine e_goto (tgt := 111) dX10_about_94 (by decide) ?_
          refine e_aload_n rfl dX10_about_111 ?_
          refine e_getf fdX10_7 dX10_about_112 kmh_97 rfl ?_
          refine e_iload_n rfl dX10_about_115 ?_
          refine e_iload rfl dX10_about_116 ?_
          refine eS2 mtX10_at msX10_at lkX10_85 dX10_about_118 rfl rfl j_at ?_
          dsimp only [Option.toList, List.cons_append, List.nil_append]
          refine e_mld (by first | exact ka98 | exact ka99 | exact ka100 | exact ka101 | exact ka102 | exact ka103 | exact ka104 | exact ka105 | exact ka106 | exact ka107 | exact ka108 | exact ka109 | exact ka110 | exact ka111 | exact ka112 | exact ka113) dX10_about_121 (by omega) (by omega) ?_
          rw [md_m md (by omega) (by omega), Int.toNat_natCast]
          have q7 := za i (by omega)
          have q6 := fun v h1 => kmul63 (x := v) h1 q7
          refine e_imul dX10_about_122 ?_
          
          refine e_i2l (by first | (have := q6 0 (by omega); unfold inI; omega) | (have := q6 63 (by omega); unfold inI; omega) | (have := q6 ((i : Int) - x) (by omega); unfold inI; omega) | (have := q6 ((i : Int) + x) (by omega); unfold inI; omega)) dX10_about_123 ?_
          refine e_ladd dX10_about_124 ?_
          refine e_lstore dX10_about_125 rfl rfl ?_
          dsimp only [List.set]
          refine e_iinc dX10_about_127 rfl rfl ?_
          dsimp only [List.set]
          refine e_goto (tgt := 62) dX10_about_130 (by decide) ?_
          refine ih (i + 1) _ _ _ (by omega) (by omega) (by omega) ?_
          rw [g4, ksum_s, Int.mul_comm ((hM (cN Z) b.toNat) i)]
          congr 1
          congr 1
          first | rw [if_pos (by assumption)] | rw [if_neg (by assumption)]
          unfold kcl
          (repeat' split) <;> omega
      · refine e_iload rfl dX10_about_73 ?_
        refine e_iload_n rfl dX10_about_75 ?_
        refine e_isub dX10_about_76 ?_
        refine e_goto (tgt := 84) dX10_about_77 (by decide) ?_
        refine e_istore dX10_about_84 rfl rfl ?_
        dsimp only [List.set]
        refine e_lload rfl dX10_about_86 ?_
        refine e_iload rfl dX10_about_88 ?_
        refine e_if_ge (tgt := 97) dX10_about_90 (by decide) (by first | assumption | (unfold inI at *; omega)) (fun c90 => ?_) (fun c90 => ?_)
        · refine e_iload rfl dX10_about_97 ?_
          refine e_bipush (by decide) dX10_about_99 ?_
          refine e_icmp_le (tgt := 109) dX10_about_101 (by decide) (by first | assumption | (unfold inI at *; omega)) (by first | assumption | (unfold inI at *; omega)) (fun c101 => ?_) (fun c101 => ?_)
          · refine e_iload rfl dX10_about_109 ?_
            refine e_aload_n rfl dX10_about_111 ?_
            refine e_getf fdX10_7 dX10_about_112 kmh_97 rfl ?_
            refine e_iload_n rfl dX10_about_115 ?_
            refine e_iload rfl dX10_about_116 ?_
            refine eS2 mtX10_at msX10_at lkX10_85 dX10_about_118 rfl rfl j_at ?_
            dsimp only [Option.toList, List.cons_append, List.nil_append]
            refine e_mld (by first | exact ka98 | exact ka99 | exact ka100 | exact ka101 | exact ka102 | exact ka103 | exact ka104 | exact ka105 | exact ka106 | exact ka107 | exact ka108 | exact ka109 | exact ka110 | exact ka111 | exact ka112 | exact ka113) dX10_about_121 (by omega) (by omega) ?_
            rw [md_m md (by omega) (by omega), Int.toNat_natCast]
            have q7 := za i (by omega)
            have q6 := fun v h1 => kmul63 (x := v) h1 q7
            refine e_imul dX10_about_122 ?_
            
            refine e_i2l (by first | (have := q6 0 (by omega); unfold inI; omega) | (have := q6 63 (by omega); unfold inI; omega) | (have := q6 ((i : Int) - x) (by omega); unfold inI; omega) | (have := q6 ((i : Int) + x) (by omega); unfold inI; omega)) dX10_about_123 ?_
            refine e_ladd dX10_about_124 ?_
            refine e_lstore dX10_about_125 rfl rfl ?_
            dsimp only [List.set]
            refine e_iinc dX10_about_127 rfl rfl ?_
            dsimp only [List.set]
            refine e_goto (tgt := 62) dX10_about_130 (by decide) ?_
            refine ih (i + 1) _ _ _ (by omega) (by omega) (by omega) ?_
            rw [g4, ksum_s, Int.mul_comm ((hM (cN Z) b.toNat) i)]
            congr 1
            congr 1
            first | rw [if_pos (by assumption)] | rw [if_neg (by assumption)]
            unfold kcl
            (repeat' split) <;> omega
          · refine e_bipush (by decide) dX10_about_104 ?_
            refine e_goto (tgt := 111) dX10_about_106 (by decide) ?_
            refine e_aload_n rfl dX10_about_111 ?_
            refine e_getf fdX10_7 dX10_about_112 kmh_97 rfl ?_
            refine e_iload_n rfl dX10_about_115 ?_
            refine e_iload rfl dX10_about_116 ?_
            refine eS2 mtX10_at msX10_at lkX10_85 dX10_about_118 rfl rfl j_at ?_
            dsimp only [Option.toList, List.cons_append, List.nil_append]
            refine e_mld (by first | exact ka98 | exact ka99 | exact ka100 | exact ka101 | exact ka102 | exact ka103 | exact ka104 | exact ka105 | exact ka106 | exact ka107 | exact ka108 | exact ka109 | exact ka110 | exact ka111 | exact ka112 | exact ka113) dX10_about_121 (by omega) (by omega) ?_
            rw [md_m md (by omega) (by omega), Int.toNat_natCast]
            have q7 := za i (by omega)
            have q6 := fun v h1 => kmul63 (x := v) h1 q7
            refine e_imul dX10_about_122 ?_
            
            refine e_i2l (by first | (have := q6 0 (by omega); unfold inI; omega) | (have := q6 63 (by omega); unfold inI; omega) | (have := q6 ((i : Int) - x) (by omega); unfold inI; omega) | (have := q6 ((i : Int) + x) (by omega); unfold inI; omega)) dX10_about_123 ?_
            refine e_ladd dX10_about_124 ?_
            refine e_lstore dX10_about_125 rfl rfl ?_
            dsimp only [List.set]
            refine e_iinc dX10_about_127 rfl rfl ?_
            dsimp only [List.set]
            refine e_goto (tgt := 62) dX10_about_130 (by decide) ?_
            refine ih (i + 1) _ _ _ (by omega) (by omega) (by omega) ?_
            rw [g4, ksum_s, Int.mul_comm ((hM (cN Z) b.toNat) i)]
            congr 1
            congr 1
            first | rw [if_pos (by assumption)] | rw [if_neg (by assumption)]
            unfold kcl
            (repeat' split) <;> omega
        · refine e_iconst dX10_about_93 ?_
          refine e_goto (tgt := 111) dX10_about_94 (by decide) ?_
          refine e_aload_n rfl dX10_about_111 ?_
          refine e_getf fdX10_7 dX10_about_112 kmh_97 rfl ?_
          refine e_iload_n rfl dX10_about_115 ?_
          refine e_iload rfl dX10_about_116 ?_
          refine eS2 mtX10_at msX10_at lkX10_85 dX10_about_118 rfl rfl j_at ?_
          dsimp only [Option.toList, List.cons_append, List.nil_append]
          refine e_mld (by first | exact ka98 | exact ka99 | exact ka100 | exact ka101 | exact ka102 | exact ka103 | exact ka104 | exact ka105 | exact ka106 | exact ka107 | exact ka108 | exact ka109 | exact ka110 | exact ka111 | exact ka112 | exact ka113) dX10_about_121 (by omega) (by omega) ?_
          rw [md_m md (by omega) (by omega), Int.toNat_natCast]
          have q7 := za i (by omega)
          have q6 := fun v h1 => kmul63 (x := v) h1 q7
          refine e_imul dX10_about_122 ?_
          
          refine e_i2l (by first | (have := q6 0 (by omega); unfold inI; omega) | (have := q6 63 (by omega); unfold inI; omega) | (have := q6 ((i : Int) - x) (by omega); unfold inI; omega) | (have := q6 ((i : Int) + x) (by omega); unfold inI; omega)) dX10_about_123 ?_
          refine e_ladd dX10_about_124 ?_
          refine e_lstore dX10_about_125 rfl rfl ?_
          dsimp only [List.set]
          refine e_iinc dX10_about_127 rfl rfl ?_
          dsimp only [List.set]
          refine e_goto (tgt := 62) dX10_about_130 (by decide) ?_
          refine ih (i + 1) _ _ _ (by omega) (by omega) (by omega) ?_
          rw [g4, ksum_s, Int.mul_comm ((hM (cN Z) b.toNat) i)]
          congr 1
          congr 1
          first | rw [if_pos (by assumption)] | rw [if_neg (by assumption)]
          unfold kcl
          (repeat' split) <;> omega
set_option maxHeartbeats 4000000 in
set_option maxRecDepth 100000 in
theorem j_about {G : kG} {d : Nat} {h : Nat → Option kC} {n : Nat} {q : Nat → Int} {F : Nat → Nat → Int} {Z : kCs} (md : rMD q F Z) (ok : kCok Z)  {b : Int} (hb : inI b) {x : Int} (hx : inI x) {e : Int} (he : inI e) {p : Int} (hp : inI p) : kCall G mX10_about (d + 4) 0 0 [.ref (gB G + 97), .int (jI b), .int (jI x), .int (jI e), .int (jI p)] (kmh G h q F) n (kQm G h n (.long (jL (a_about Z b x e p))) (Z)) := by
  show kE G mX10_about (d + 4) 0 0 0 [some (.ref (gB G + 97)), some (.int (jI b)), some (.int (jI x)), some (.int (jI e)), some (.int (jI p)), none, none, none, none] [] (kmh G h q F) n _
  refine e_iload_n rfl dX10_about_0 ?_
  refine eS1 mtX10_isBook msX10_isBook lkX10_76 dX10_about_1 rfl rfl (j_isBook (by first | assumption | (unfold inI at *; omega))) ?_
  dsimp only [Option.toList, List.cons_append, List.nil_append]
  refine e_ifneP (tgt := 11) dX10_about_4 (by decide) (fun c4 => ?_) (fun c4 => ?_)
  · refine e_iload_n rfl dX10_about_11 ?_
    refine e_i2l (by first | assumption | (unfold inI at *; omega)) dX10_about_12 ?_
    refine e_lconst (z := 0) (by decide) dX10_about_13 ?_
    refine e_ldc2 (z := 8) kcX10_70 (by decide) dX10_about_14 ?_
    refine eS3 mtX10_in msX10_in lkX10_64 dX10_about_17 rfl rfl (j_in (by first | assumption | exact inL_of (by assumption) | (unfold inL; omega) | (unfold inI at *; unfold inL; omega)) (by first | assumption | exact inL_of (by assumption) | (unfold inL; omega) | (unfold inI at *; unfold inL; omega)) (by first | assumption | exact inL_of (by assumption) | (unfold inL; omega) | (unfold inI at *; unfold inL; omega))) ?_
    dsimp only [Option.toList, List.cons_append, List.nil_append]
    refine e_ifeqP (tgt := 38) dX10_about_20 (by decide) (fun c20 => ?_) (fun c20 => ?_)
    · refine e_ldc2 (z := (-1000000000000000002)) kcX10_159 (by decide) dX10_about_38 ?_
      refine e_lreturn dX10_about_41 rfl ?_
      exact kQm_0 (by unfold a_about; first | (rw [if_pos (by omega)]; done) | (rw [if_neg (by omega), if_pos (by omega)]; done) | (rw [if_neg (by omega), if_neg (by omega), if_pos (by omega)]; done)) md
    · refine e_iload_n rfl dX10_about_23 ?_
      refine eS1 mtX10_isEnd msX10_isEnd lkX10_124 dX10_about_24 rfl rfl (j_isEnd (by first | assumption | (unfold inI at *; omega))) ?_
      dsimp only [Option.toList, List.cons_append, List.nil_append]
      refine e_ifeqP (tgt := 38) dX10_about_27 (by decide) (fun c27 => ?_) (fun c27 => ?_)
      · refine e_ldc2 (z := (-1000000000000000002)) kcX10_159 (by decide) dX10_about_38 ?_
        refine e_lreturn dX10_about_41 rfl ?_
        exact kQm_0 (by unfold a_about; first | (rw [if_pos (by omega)]; done) | (rw [if_neg (by omega), if_pos (by omega)]; done) | (rw [if_neg (by omega), if_neg (by omega), if_pos (by omega)]; done)) md
      · refine e_iload rfl dX10_about_30 ?_
        refine eS1 mtX10_isEnd msX10_isEnd lkX10_124 dX10_about_32 rfl rfl (j_isEnd (by first | assumption | (unfold inI at *; omega))) ?_
        dsimp only [Option.toList, List.cons_append, List.nil_append]
        refine e_ifneP (tgt := 42) dX10_about_35 (by decide) (fun c35 => ?_) (fun c35 => ?_)
        · refine e_aload_n rfl dX10_about_42 ?_
          refine e_getf fdX10_19 dX10_about_43 kmh_97 rfl ?_
          refine e_iload_n rfl dX10_about_46 ?_
          refine e_mld (by first | exact ka98 | exact ka99 | exact ka100 | exact ka101 | exact ka102 | exact ka103 | exact ka104 | exact ka105 | exact ka106 | exact ka107 | exact ka108 | exact ka109 | exact ka110 | exact ka111 | exact ka112 | exact ka113) dX10_about_47 (by omega) (by omega) ?_
          rw [(md_e md (by omega)).2.2]
          have y9 := (ok.1.2.1 b.toNat (by omega)).2.2
          refine e_iconst dX10_about_48 ?_
          refine e_icmp_eq (tgt := 56) dX10_about_49 (by decide) (by first | assumption | (unfold inI at *; omega)) (by first | assumption | (unfold inI at *; omega)) (fun c49 => ?_) (fun c49 => ?_)
          · refine e_lconst (z := 0) (by decide) dX10_about_56 ?_
            refine e_lstore dX10_about_57 rfl rfl ?_
            dsimp only [List.set]
            refine e_iconst dX10_about_59 ?_
            refine e_istore dX10_about_60 rfl rfl ?_
            dsimp only [List.set]
            exact j_about_lp md ok (by omega) (by omega) (by omega) (by omega) (by omega) 100 0 _ _ none (by omega) (by omega) (by omega) rfl
          · refine e_ldc2 (z := (-1000000000000000003)) kcX10_271 (by decide) dX10_about_52 ?_
            refine e_lreturn dX10_about_55 rfl ?_
            exact kQm_0 (by unfold a_about; first | (rw [if_pos (by omega)]; done) | (rw [if_neg (by omega), if_pos (by omega)]; done) | (rw [if_neg (by omega), if_neg (by omega), if_pos (by omega)]; done)) md
        · refine e_ldc2 (z := (-1000000000000000002)) kcX10_159 (by decide) dX10_about_38 ?_
          refine e_lreturn dX10_about_41 rfl ?_
          exact kQm_0 (by unfold a_about; first | (rw [if_pos (by omega)]; done) | (rw [if_neg (by omega), if_pos (by omega)]; done) | (rw [if_neg (by omega), if_neg (by omega), if_pos (by omega)]; done)) md
  · refine e_ldc2 (z := (-1000000000000000001)) kcX10_216 (by decide) dX10_about_7 ?_
    refine e_lreturn dX10_about_10 rfl ?_
    exact kQm_0 (by unfold a_about; first | (rw [if_pos (by omega)]; done) | (rw [if_neg (by omega), if_pos (by omega)]; done) | (rw [if_neg (by omega), if_neg (by omega), if_pos (by omega)]; done)) md
