/-! THE REFERENCE: HUMPS -/
def kcm (n k : Nat) : Nat → Int
  | 0 => 1
  | i + 1 => kcm n k i * ((n : Int) - k + ((i + 1 : Nat) : Int)) / ((i + 1 : Nat) : Int)
theorem kcm_a : ∀ w : Nat, w < 9 → ∀ k : Nat, k < 17 → (2 * w < k ∨ w = 0 ∨ kcm (2 * w) k k = kbn8 w k) := by decide +kernel
theorem kcm_b : ∀ w : Nat, w < 9 → ∀ k : Nat, k < 17 → ∀ i : Nat, i < 17 → (2 * w < k ∨ k < i ∨ (0 ≤ kcm (2 * w) k i ∧ kcm (2 * w) k i ≤ 12870)) := by decide +kernel
theorem kcm_ok (w : Nat) (hw : w < 9) (k : Nat) (hk : k < 17) (hk2 : k ≤ 2 * w) : (1 ≤ w → kcm (2 * w) k k = kbn8 w k) ∧ ∀ i : Nat, i < 17 → i ≤ k → 0 ≤ kcm (2 * w) k i ∧ kcm (2 * w) k i ≤ 12870 := by
  refine ⟨fun h1 => ?_, fun i h1 h2 => ?_⟩
  · rcases kcm_a w hw k hk with h | h | h
    · omega
    · omega
    · exact h
  · rcases kcm_b w hw k hk i h1 with h | h | h
    · omega
    · omega
    · exact h
theorem kcm_d {x y : Int} (hx : 0 ≤ x ∧ x ≤ 12870) (hy : 0 ≤ y ∧ y ≤ 16) : 0 ≤ x * y ∧ x * y ≤ 205920 := by
  have a1 := Int.mul_nonneg hx.1 hy.1
  have a2 : x * y ≤ 12870 * 16 := Int.mul_le_mul hx.2 hy.2 hy.1 (by decide)
  omega
set_option maxHeartbeats 4000000 in
set_option maxRecDepth 100000 in
theorem j_choose_lp {G : kG} {d : Nat} {h : Nat → Option kC} {n : Nat} {w : Int} (w0 : 1 ≤ w ∧ w ≤ 8) {k : Nat} (k0 : (k : Int) ≤ 2 * w)  : ∀ (f : Nat) (i : Nat) (z y : Int), z = (i : Int) → 1 ≤ i ∧ (i : Int) ≤ k + 1 → (k : Int) + 1 - i ≤ f → y = kcm (2 * w).toNat k (i - 1) → kE G mX10_choose d 0 0 15 [some (.int (jI (2 * w))), some (.int (jI k)), some (.int (jI y)), some (.int (jI z))] [] h n (kre (some (.int (jI (kcm (2 * w).toNat k k)))) h n) := by
  intro f
  induction f with
  | zero =>
    intro i z y g1 g2 g3 g4
    refine e_iload_n rfl dX10_choose_15 ?_
    refine e_iload_n rfl dX10_choose_16 ?_
    refine e_icmp_gt (tgt := 36) dX10_choose_17 (by decide) (by first | assumption | (unfold inI at *; omega)) (by first | assumption | (unfold inI at *; omega)) (fun c17 => ?_) (fun c17 => ?_)
    · refine e_iload_n rfl dX10_choose_36 ?_
      refine e_ireturn dX10_choose_37 rfl rfl ?_
      exact ⟨by rw [g4, show i - 1 = k by omega], rfl, rfl⟩
    · exact absurd c17 (by omega)
  | succ f ih =>
    intro i z y g1 g2 g3 g4
    subst g1
    have e9 := kcm_ok w.toNat (by omega) k (by omega) (by omega)
    rw [show 2 * w.toNat = (2 * w).toNat by omega] at e9
    refine e_iload_n rfl dX10_choose_15 ?_
    refine e_iload_n rfl dX10_choose_16 ?_
    refine e_icmp_gt (tgt := 36) dX10_choose_17 (by decide) (by first | assumption | (unfold inI at *; omega)) (by first | assumption | (unfold inI at *; omega)) (fun c17 => ?_) (fun c17 => ?_)
    · refine e_iload_n rfl dX10_choose_36 ?_
      refine e_ireturn dX10_choose_37 rfl rfl ?_
      exact ⟨by rw [g4, show i - 1 = k by omega], rfl, rfl⟩
    · have e8 := e9.2 (i - 1) (by omega) (by omega)
      rw [← g4] at e8
      have e7 := kcm_d e8 (y := 2 * w - (k : Int) + (i : Int)) (by omega)
      have e6 : kcm (2 * w).toNat k i = y * (2 * w - (k : Int) + (i : Int)) / (i : Int) := by
        obtain ⟨j, rfl⟩ : ∃ j, i = j + 1 := ⟨i - 1, by omega⟩
        show kcm _ _ j * _ / _ = _
        rw [g4, show j + 1 - 1 = j by omega, show (((2 * w).toNat : Nat) : Int) = 2 * w by omega]
      refine e_iload_n rfl dX10_choose_20 ?_
      refine e_iload_n rfl dX10_choose_21 ?_
      refine e_iload_n rfl dX10_choose_22 ?_
      refine e_isub dX10_choose_23 ?_
      refine e_iload_n rfl dX10_choose_24 ?_
      refine e_iadd dX10_choose_25 ?_
      refine e_imul dX10_choose_26 ?_
      refine e_iload_n rfl dX10_choose_27 ?_
      refine e_idivN (by first | assumption | (unfold inI at *; omega)) (by first | assumption | (unfold inI at *; omega)) (by omega) (by omega) dX10_choose_28 ?_
      refine e_istore_n dX10_choose_29 rfl rfl ?_
      dsimp only [List.set]
      refine e_iinc dX10_choose_30 rfl rfl ?_
      dsimp only [List.set]
      refine e_goto (tgt := 15) dX10_choose_33 (by decide) ?_
      exact ih (i + 1) _ _ (by omega) (by omega) (by omega) (by rw [show i + 1 - 1 = i by omega, e6])
set_option maxHeartbeats 4000000 in
set_option maxRecDepth 100000 in
theorem j_choose {G : kG} {d : Nat} {h : Nat → Option kC} {n : Nat} {w k : Int} (w0 : 1 ≤ w ∧ w ≤ 8) (hk : inI k) : kCall G mX10_choose d 0 0 [.int (jI (2 * w)), .int (jI k)] h n (kre (some (.int (jI (kch w k)))) h n) := by
  show kE G mX10_choose d 0 0 0 [some (.int (jI (2 * w))), some (.int (jI k)), none, none] [] h n _
  refine e_iload_n rfl dX10_choose_0 ?_
  refine e_if_lt (tgt := 9) dX10_choose_1 (by decide) (by first | assumption | (unfold inI at *; omega)) (fun c1 => ?_) (fun c1 => ?_)
  · refine e_iconst dX10_choose_9 ?_
    refine e_ireturn dX10_choose_10 rfl rfl ?_
    exact ⟨by first | rw [kch_lo (by omega)] | rw [kch_hi (by omega) (by omega) (by omega)], rfl, rfl⟩
  · refine e_iload_n rfl dX10_choose_4 ?_
    refine e_iload_n rfl dX10_choose_5 ?_
    refine e_icmp_le (tgt := 11) dX10_choose_6 (by decide) (by first | assumption | (unfold inI at *; omega)) (by first | assumption | (unfold inI at *; omega)) (fun c6 => ?_) (fun c6 => ?_)
    · refine e_iconst dX10_choose_11 ?_
      refine e_istore_n dX10_choose_12 rfl rfl ?_
      dsimp only [List.set]
      refine e_iconst dX10_choose_13 ?_
      refine e_istore_n dX10_choose_14 rfl rfl ?_
      dsimp only [List.set]
      have e9 := kcm_ok w.toNat (by omega) k.toNat (by omega) (by omega)
      have q9 := j_choose_lp (G := G) (d := d) (h := h) (n := n) w0 (k := k.toNat) (by omega) 20 1 1 1 (by omega) (by omega) (by omega) rfl
      rw [show ((k.toNat : Nat) : Int) = k by omega] at q9
      refine kE.mono q9 (fun r h' n' hq => ?_)
      obtain ⟨y1, y2, y3⟩ := hq
      refine ⟨?_, y2, y3⟩
      rw [y1]
      unfold kch
      rw [if_pos (by omega), ← e9.1 (by omega), show 2 * w.toNat = (2 * w).toNat by omega]
    · refine e_iconst dX10_choose_9 ?_
      refine e_ireturn dX10_choose_10 rfl rfl ?_
      exact ⟨by first | rw [kch_lo (by omega)] | rw [kch_hi (by omega) (by omega) (by omega)], rfl, rfl⟩
set_option maxHeartbeats 4000000 in
set_option maxRecDepth 100000 in
theorem j_humpOf {G : kG} {d : Nat} {h : Nat → Option kC} {n : Nat} {m w x : Int} (m0 : 0 ≤ m ∧ m ≤ 63) (w0 : 1 ≤ w ∧ w ≤ 8) (x0 : -1000 ≤ x ∧ x ≤ 1000) : kCall G mX10_humpOf (d + 2) 0 0 [.int (jI m), .int (jI w), .int (jI x)] h n (kre (some (.int (jI (khm m w x)))) h n) := by
  show kE G mX10_humpOf (d + 2) 0 0 0 [some (.int (jI m)), some (.int (jI w)), some (.int (jI x))] [] h n _
  refine e_iload_n rfl dX10_humpOf_0 ?_
  refine eS1 mtX10_isHeight msX10_isHeight lkX10_80 dX10_humpOf_1 rfl rfl (j_isHeight (by first | assumption | (unfold inI at *; omega))) ?_
  dsimp only [Option.toList, List.cons_append, List.nil_append]
  refine e_ifeqP (tgt := 21) dX10_humpOf_4 (by decide) (fun c4 => ?_) (fun c4 => ?_)
  · refine e_iconst dX10_humpOf_21 ?_
    refine e_ireturn dX10_humpOf_22 rfl rfl ?_
    exact ⟨by unfold khm; first | rw [if_pos (by omega)] | rw [if_neg (by omega)], rfl, rfl⟩
  · refine e_iconst dX10_humpOf_7 ?_
    refine e_iload_n rfl dX10_humpOf_8 ?_
    refine e_imul dX10_humpOf_9 ?_
    refine e_iload_n rfl dX10_humpOf_10 ?_
    refine e_iload_n rfl dX10_humpOf_11 ?_
    refine e_isub dX10_humpOf_12 ?_
    refine e_iload_n rfl dX10_humpOf_13 ?_
    refine e_iadd dX10_humpOf_14 ?_
    refine eS2 mtX10_choose msX10_choose lkX10_149 dX10_humpOf_15 rfl rfl (j_choose (by omega) (by first | assumption | (unfold inI at *; omega))) ?_
    dsimp only [Option.toList, List.cons_append, List.nil_append]
    refine e_goto (tgt := 22) dX10_humpOf_18 (by decide) ?_
    refine e_ireturn dX10_humpOf_22 rfl rfl ?_
    exact ⟨by unfold khm; first | rw [if_pos (by omega)] | rw [if_neg (by omega)], rfl, rfl⟩
set_option maxHeartbeats 4000000 in
set_option maxRecDepth 100000 in
theorem j_hump {G : kG} {d : Nat} {h : Nat → Option kC} {n : Nat} {q : Nat → Int} {F : Nat → Nat → Int} {Z : kCs} (md : rMD q F Z) (ok : kCok Z)  {m : Int} (hm : inI m) {w : Int} (hw : inI w) {x : Int} (hx : inI x) : kCall G mX10_hump (d + 4) 0 0 [.ref (gB G + 97), .int (jI m), .int (jI w), .int (jI x)] (kmh G h q F) n (kQm G h n (.int (jI (a_hump Z m w x))) (Z)) := by
  show kE G mX10_hump (d + 4) 0 0 0 [some (.ref (gB G + 97)), some (.int (jI m)), some (.int (jI w)), some (.int (jI x))] [] (kmh G h q F) n _
  refine e_iload_n rfl dX10_hump_0 ?_
  refine eS1 mtX10_isHeight msX10_isHeight lkX10_80 dX10_hump_1 rfl rfl (j_isHeight (by first | assumption | (unfold inI at *; omega))) ?_
  dsimp only [Option.toList, List.cons_append, List.nil_append]
  refine e_ifeqP (tgt := 30) dX10_hump_4 (by decide) (fun c4 => ?_) (fun c4 => ?_)
  · refine e_bipush (by decide) dX10_hump_30 ?_
    refine e_ireturn dX10_hump_32 rfl rfl ?_
    exact kQm_0 (by unfold a_hump; (repeat' split) <;> first | rfl | (exfalso; omega)) md
  · refine e_iload_n rfl dX10_hump_7 ?_
    refine eS1 mtX10_isWidth msX10_isWidth lkX10_152 dX10_hump_8 rfl rfl (j_isWidth (by first | assumption | (unfold inI at *; omega))) ?_
    dsimp only [Option.toList, List.cons_append, List.nil_append]
    refine e_ifeqP (tgt := 30) dX10_hump_11 (by decide) (fun c11 => ?_) (fun c11 => ?_)
    · refine e_bipush (by decide) dX10_hump_30 ?_
      refine e_ireturn dX10_hump_32 rfl rfl ?_
      exact kQm_0 (by unfold a_hump; (repeat' split) <;> first | rfl | (exfalso; omega)) md
    · refine e_iload_n rfl dX10_hump_14 ?_
      refine eS1 mtX10_isHeight msX10_isHeight lkX10_80 dX10_hump_15 rfl rfl (j_isHeight (by first | assumption | (unfold inI at *; omega))) ?_
      dsimp only [Option.toList, List.cons_append, List.nil_append]
      refine e_ifeqP (tgt := 30) dX10_hump_18 (by decide) (fun c18 => ?_) (fun c18 => ?_)
      · refine e_bipush (by decide) dX10_hump_30 ?_
        refine e_ireturn dX10_hump_32 rfl rfl ?_
        exact kQm_0 (by unfold a_hump; (repeat' split) <;> first | rfl | (exfalso; omega)) md
      · refine e_iload_n rfl dX10_hump_21 ?_
        refine e_iload_n rfl dX10_hump_22 ?_
        refine e_iload_n rfl dX10_hump_23 ?_
        refine eS3 mtX10_humpOf msX10_humpOf lkX10_155 dX10_hump_24 rfl rfl (j_humpOf (by omega) (by omega) (by omega)) ?_
        dsimp only [Option.toList, List.cons_append, List.nil_append]
        refine e_goto (tgt := 32) dX10_hump_27 (by decide) ?_
        refine e_ireturn dX10_hump_32 rfl rfl ?_
        exact kQm_0 (by unfold a_hump; (repeat' split) <;> first | rfl | (exfalso; omega)) md
set_option maxHeartbeats 4000000 in
set_option maxRecDepth 100000 in
theorem j_upper_lp {G : kG} {d : Nat} {h : Nat → Option kC} {n : Nat} {q : Nat → Int} {F : Nat → Nat → Int} {Z : kCs} (md : rMD q F Z) {m w l x p : Int} (m0 : 0 ≤ m ∧ m ≤ 63) (w0 : 1 ≤ w ∧ w ≤ 8) (l0 : 0 ≤ l ∧ l ≤ 63) (x0 : 0 ≤ x ∧ x ≤ 1) (p0 : 0 ≤ p ∧ p ≤ 1)  : ∀ (f : Nat) (i : Nat) (z ca cs ss : Int) (e13 : Option Value), z = (i : Int) → i ≤ 64 → 64 - (i : Int) ≤ f → ca = ksum (fun x : Nat => if (0 : Int) ≤ (x : Int) then khm m w x else 0) i → cs = ksum (fun x : Nat => if l ≤ (x : Int) then khm m w x else 0) i → ss = ksum (fun x : Nat => if l ≤ (x : Int) then (x : Int) * khm m w x else 0) i → kE G mX10_upper (d + 4) 0 0 53 [some (.ref (gB G + 97)), some (.int (jI m)), some (.int (jI w)), some (.int (jI l)), some (.int (jI x)), some (.int (jI p)), some (.long (jL ca)), none, some (.long (jL cs)), none, some (.long (jL ss)), none, some (.int (jI z)), e13] [] (kmh G h q F) n (kQm G h n (.long (jL (a_upper Z m w l x p))) (Z)) := by
  intro f
  induction f with
  | zero =>
    intro i z ca cs ss e13 g1 g2 g3 g4 g5 g6
    refine e_iload rfl dX10_upper_53 ?_
    refine e_bipush (by decide) dX10_upper_55 ?_
    refine e_icmp_ge (tgt := 122) dX10_upper_57 (by decide) (by first | assumption | (unfold inI at *; omega)) (by first | assumption | (unfold inI at *; omega)) (fun c57 => ?_) (fun c57 => ?_)
    · have q8 := kcf_in (m := m) (w := w) (l := l) (by omega) (by omega)
      have q7 := kcf_in (m := m) (w := w) (l := 0) (by omega) (by omega)
      have q6 := ksf_in (m := m) (w := w) (l := l) (by omega) (by omega)
      have q3 : ca = kcf m w 0 := by rw [g4, show i = 64 by omega]; rfl
      have q4 : cs = kcf m w l := by rw [g5, show i = 64 by omega]; rfl
      have q5 : ss = ksf m w l := by rw [g6, show i = 64 by omega]; rfl
      refine e_iload rfl dX10_upper_122 ?_
      refine e_if_ne (tgt := 139) dX10_upper_124 (by decide) (by first | assumption | (unfold inI at *; omega)) (fun c124 => ?_) (fun c124 => ?_)
      · refine e_lload rfl dX10_upper_139 ?_
        refine e_lload rfl dX10_upper_141 ?_
        refine e_iload rfl dX10_upper_143 ?_
        refine eS3 mtX10_lowest msX10_lowest lkX10_161 dX10_upper_145 rfl rfl (j_lowest (by omega) (by omega) (by omega) (by omega) (by omega) (by omega)) ?_
        dsimp only [Option.toList, List.cons_append, List.nil_append]
        refine e_lreturn dX10_upper_148 rfl ?_
        exact kQm_0 (by unfold a_upper; rw [if_neg (by omega)]; first | (rw [if_pos (by assumption), q3, q4]; done) | (rw [if_neg (by assumption), q4, q5]; done)) md
      · refine e_lload rfl dX10_upper_127 ?_
        refine e_lload rfl dX10_upper_129 ?_
        refine e_iload rfl dX10_upper_131 ?_
        refine eS3 mtX10_lowest msX10_lowest lkX10_161 dX10_upper_133 rfl rfl (j_lowest (by omega) (by omega) (by omega) (by omega) (by omega) (by omega)) ?_
        dsimp only [Option.toList, List.cons_append, List.nil_append]
        refine e_goto (tgt := 148) dX10_upper_136 (by decide) ?_
        refine e_lreturn dX10_upper_148 rfl ?_
        exact kQm_0 (by unfold a_upper; rw [if_neg (by omega)]; first | (rw [if_pos (by assumption), q3, q4]; done) | (rw [if_neg (by assumption), q4, q5]; done)) md
    · exact absurd c57 (by omega)
  | succ f ih =>
    intro i z ca cs ss e13 g1 g2 g3 g4 g5 g6
    subst g1
    refine e_iload rfl dX10_upper_53 ?_
    refine e_bipush (by decide) dX10_upper_55 ?_
    refine e_icmp_ge (tgt := 122) dX10_upper_57 (by decide) (by first | assumption | (unfold inI at *; omega)) (by first | assumption | (unfold inI at *; omega)) (fun c57 => ?_) (fun c57 => ?_)
    · have q8 := kcf_in (m := m) (w := w) (l := l) (by omega) (by omega)
      have q7 := kcf_in (m := m) (w := w) (l := 0) (by omega) (by omega)
      have q6 := ksf_in (m := m) (w := w) (l := l) (by omega) (by omega)
      have q3 : ca = kcf m w 0 := by rw [g4, show i = 64 by omega]; rfl
      have q4 : cs = kcf m w l := by rw [g5, show i = 64 by omega]; rfl
      have q5 : ss = ksf m w l := by rw [g6, show i = 64 by omega]; rfl
      refine e_iload rfl dX10_upper_122 ?_
      refine e_if_ne (tgt := 139) dX10_upper_124 (by decide) (by first | assumption | (unfold inI at *; omega)) (fun c124 => ?_) (fun c124 => ?_)
      · refine e_lload rfl dX10_upper_139 ?_
        refine e_lload rfl dX10_upper_141 ?_
        refine e_iload rfl dX10_upper_143 ?_
        refine eS3 mtX10_lowest msX10_lowest lkX10_161 dX10_upper_145 rfl rfl (j_lowest (by omega) (by omega) (by omega) (by omega) (by omega) (by omega)) ?_
        dsimp only [Option.toList, List.cons_append, List.nil_append]
        refine e_lreturn dX10_upper_148 rfl ?_
        exact kQm_0 (by unfold a_upper; rw [if_neg (by omega)]; first | (rw [if_pos (by assumption), q3, q4]; done) | (rw [if_neg (by assumption), q4, q5]; done)) md
      · refine e_lload rfl dX10_upper_127 ?_
        refine e_lload rfl dX10_upper_129 ?_
        refine e_iload rfl dX10_upper_131 ?_
        refine eS3 mtX10_lowest msX10_lowest lkX10_161 dX10_upper_133 rfl rfl (j_lowest (by omega) (by omega) (by omega) (by omega) (by omega) (by omega)) ?_
        dsimp only [Option.toList, List.cons_append, List.nil_append]
        refine e_goto (tgt := 148) dX10_upper_136 (by decide) ?_
        refine e_lreturn dX10_upper_148 rfl ?_
        exact kQm_0 (by unfold a_upper; rw [if_neg (by omega)]; first | (rw [if_pos (by assumption), q3, q4]; done) | (rw [if_neg (by assumption), q4, q5]; done)) md
    · refine e_iload_n rfl dX10_upper_60 ?_
      refine e_iload_n rfl dX10_upper_61 ?_
      refine e_iload rfl dX10_upper_62 ?_
      refine eS3 mtX10_humpOf msX10_humpOf lkX10_155 dX10_upper_64 rfl rfl (j_humpOf (by omega) (by omega) (by omega)) ?_
      dsimp only [Option.toList, List.cons_append, List.nil_append]
      have q9 := khm_in (m := m) (w := w) (by omega) (by omega) (i : Int)
      have q2 : 0 ≤ (i : Int) * khm m w i ∧ (i : Int) * khm m w i ≤ 810810 := by
        have a2 : (i : Int) * khm m w i ≤ 63 * khm m w i := Int.mul_le_mul_of_nonneg_right (by omega) q9.1
        have a3 : 0 ≤ (i : Int) * khm m w i := Int.mul_nonneg (by omega) q9.1
        omega
      refine e_istore dX10_upper_67 rfl rfl ?_
      dsimp only [List.set]
      refine e_lload rfl dX10_upper_69 ?_
      refine e_iload rfl dX10_upper_71 ?_
      refine e_i2l (by first | assumption | (unfold inI at *; omega)) dX10_upper_73 ?_
      refine e_ladd dX10_upper_74 ?_
      refine e_lstore dX10_upper_75 rfl rfl ?_
      dsimp only [List.set]
      refine e_lload rfl dX10_upper_77 ?_
      refine e_iload rfl dX10_upper_79 ?_
      refine e_iload_n rfl dX10_upper_81 ?_
      refine e_icmp_lt (tgt := 91) dX10_upper_82 (by decide) (by first | assumption | (unfold inI at *; omega)) (by first | assumption | (unfold inI at *; omega)) (fun c82 => ?_) (fun c82 => ?_)
      · refine e_lconst (z := 0) (by decide) dX10_upper_91 ?_
        refine e_ladd dX10_upper_92 ?_
        refine e_lstore dX10_upper_93 rfl rfl ?_
        dsimp only [List.set]
        refine e_lload rfl dX10_upper_95 ?_
        refine e_iload rfl dX10_upper_97 ?_
        refine e_iload_n rfl dX10_upper_99 ?_
        refine e_icmp_lt (tgt := 112) dX10_upper_100 (by decide) (by first | assumption | (unfold inI at *; omega)) (by first | assumption | (unfold inI at *; omega)) (fun c100 => ?_) (fun c100 => ?_)
        · refine e_lconst (z := 0) (by decide) dX10_upper_112 ?_
          refine e_ladd dX10_upper_113 ?_
          refine e_lstore dX10_upper_114 rfl rfl ?_
          dsimp only [List.set]
          refine e_iinc dX10_upper_116 rfl rfl ?_
          dsimp only [List.set]
          refine e_goto (tgt := 53) dX10_upper_119 (by decide) ?_
          first | (exfalso; omega; done) | exact ih (i + 1) _ _ _ _ _ (by omega) (by omega) (by omega) (by rw [g4, ksum_s, if_pos (by omega)]) (by rw [g5, ksum_s]; first | rw [if_pos (by omega)] | rw [if_neg (by omega)]) (by rw [g6, ksum_s]; first | rw [if_pos (by omega)] | rw [if_neg (by omega)])
        · refine e_iload rfl dX10_upper_103 ?_
          refine e_iload rfl dX10_upper_105 ?_
          refine e_imul dX10_upper_107 ?_
          refine e_i2l (by first | assumption | (unfold inI at *; omega)) dX10_upper_108 ?_
          refine e_goto (tgt := 113) dX10_upper_109 (by decide) ?_
          refine e_ladd dX10_upper_113 ?_
          refine e_lstore dX10_upper_114 rfl rfl ?_
          dsimp only [List.set]
          refine e_iinc dX10_upper_116 rfl rfl ?_
          dsimp only [List.set]
          refine e_goto (tgt := 53) dX10_upper_119 (by decide) ?_
          first | (exfalso; omega; done) | exact ih (i + 1) _ _ _ _ _ (by omega) (by omega) (by omega) (by rw [g4, ksum_s, if_pos (by omega)]) (by rw [g5, ksum_s]; first | rw [if_pos (by omega)] | rw [if_neg (by omega)]) (by rw [g6, ksum_s]; first | rw [if_pos (by omega)] | rw [if_neg (by omega)])
      · refine e_iload rfl dX10_upper_85 ?_
        refine e_i2l (by first | assumption | (unfold inI at *; omega)) dX10_upper_87 ?_
        refine e_goto (tgt := 92) dX10_upper_88 (by decide) ?_
        refine e_ladd dX10_upper_92 ?_
        refine e_lstore dX10_upper_93 rfl rfl ?_
        dsimp only [List.set]
        refine e_lload rfl dX10_upper_95 ?_
        refine e_iload rfl dX10_upper_97 ?_
        refine e_iload_n rfl dX10_upper_99 ?_
        refine e_icmp_lt (tgt := 112) dX10_upper_100 (by decide) (by first | assumption | (unfold inI at *; omega)) (by first | assumption | (unfold inI at *; omega)) (fun c100 => ?_) (fun c100 => ?_)
        · refine e_lconst (z := 0) (by decide) dX10_upper_112 ?_
          refine e_ladd dX10_upper_113 ?_
          refine e_lstore dX10_upper_114 rfl rfl ?_
          dsimp only [List.set]
          refine e_iinc dX10_upper_116 rfl rfl ?_
          dsimp only [List.set]
          refine e_goto (tgt := 53) dX10_upper_119 (by decide) ?_
          first | (exfalso; omega; done) | exact ih (i + 1) _ _ _ _ _ (by omega) (by omega) (by omega) (by rw [g4, ksum_s, if_pos (by omega)]) (by rw [g5, ksum_s]; first | rw [if_pos (by omega)] | rw [if_neg (by omega)]) (by rw [g6, ksum_s]; first | rw [if_pos (by omega)] | rw [if_neg (by omega)])
        · refine e_iload rfl dX10_upper_103 ?_
          refine e_iload rfl dX10_upper_105 ?_
          refine e_imul dX10_upper_107 ?_
          refine e_i2l (by first | assumption | (unfold inI at *; omega)) dX10_upper_108 ?_
          refine e_goto (tgt := 113) dX10_upper_109 (by decide) ?_
          refine e_ladd dX10_upper_113 ?_
          refine e_lstore dX10_upper_114 rfl rfl ?_
          dsimp only [List.set]
          refine e_iinc dX10_upper_116 rfl rfl ?_
          dsimp only [List.set]
          refine e_goto (tgt := 53) dX10_upper_119 (by decide) ?_
          first | (exfalso; omega; done) | exact ih (i + 1) _ _ _ _ _ (by omega) (by omega) (by omega) (by rw [g4, ksum_s, if_pos (by omega)]) (by rw [g5, ksum_s]; first | rw [if_pos (by omega)] | rw [if_neg (by omega)]) (by rw [g6, ksum_s]; first | rw [if_pos (by omega)] | rw [if_neg (by omega)])
set_option maxHeartbeats 4000000 in
set_option maxRecDepth 100000 in
theorem j_upper {G : kG} {d : Nat} {h : Nat → Option kC} {n : Nat} {q : Nat → Int} {F : Nat → Nat → Int} {Z : kCs} (md : rMD q F Z) (ok : kCok Z)  {m : Int} (hm : inI m) {w : Int} (hw : inI w) {l : Int} (hl : inI l) {x : Int} (hx : inI x) {p : Int} (hp : inI p) : kCall G mX10_upper (d + 4) 0 0 [.ref (gB G + 97), .int (jI m), .int (jI w), .int (jI l), .int (jI x), .int (jI p)] (kmh G h q F) n (kQm G h n (.long (jL (a_upper Z m w l x p))) (Z)) := by
  show kE G mX10_upper (d + 4) 0 0 0 [some (.ref (gB G + 97)), some (.int (jI m)), some (.int (jI w)), some (.int (jI l)), some (.int (jI x)), some (.int (jI p)), none, none, none, none, none, none, none, none] [] (kmh G h q F) n _
  refine e_iload_n rfl dX10_upper_0 ?_
  refine eS1 mtX10_isHeight msX10_isHeight lkX10_80 dX10_upper_1 rfl rfl (j_isHeight (by first | assumption | (unfold inI at *; omega))) ?_
  dsimp only [Option.toList, List.cons_append, List.nil_append]
  refine e_ifeqP (tgt := 37) dX10_upper_4 (by decide) (fun c4 => ?_) (fun c4 => ?_)
  · refine e_ldc2 (z := (-1000000000000000002)) kcX10_159 (by decide) dX10_upper_37 ?_
    refine e_lreturn dX10_upper_40 rfl ?_
    exact kQm_0 (by unfold a_upper; rw [if_pos (by omega)]) md
  · refine e_iload_n rfl dX10_upper_7 ?_
    refine eS1 mtX10_isWidth msX10_isWidth lkX10_152 dX10_upper_8 rfl rfl (j_isWidth (by first | assumption | (unfold inI at *; omega))) ?_
    dsimp only [Option.toList, List.cons_append, List.nil_append]
    refine e_ifeqP (tgt := 37) dX10_upper_11 (by decide) (fun c11 => ?_) (fun c11 => ?_)
    · refine e_ldc2 (z := (-1000000000000000002)) kcX10_159 (by decide) dX10_upper_37 ?_
      refine e_lreturn dX10_upper_40 rfl ?_
      exact kQm_0 (by unfold a_upper; rw [if_pos (by omega)]) md
    · refine e_iload_n rfl dX10_upper_14 ?_
      refine eS1 mtX10_isHeight msX10_isHeight lkX10_80 dX10_upper_15 rfl rfl (j_isHeight (by first | assumption | (unfold inI at *; omega))) ?_
      dsimp only [Option.toList, List.cons_append, List.nil_append]
      refine e_ifeqP (tgt := 37) dX10_upper_18 (by decide) (fun c18 => ?_) (fun c18 => ?_)
      · refine e_ldc2 (z := (-1000000000000000002)) kcX10_159 (by decide) dX10_upper_37 ?_
        refine e_lreturn dX10_upper_40 rfl ?_
        exact kQm_0 (by unfold a_upper; rw [if_pos (by omega)]) md
      · refine e_iload rfl dX10_upper_21 ?_
        refine eS1 mtX10_isEnd msX10_isEnd lkX10_124 dX10_upper_23 rfl rfl (j_isEnd (by first | assumption | (unfold inI at *; omega))) ?_
        dsimp only [Option.toList, List.cons_append, List.nil_append]
        refine e_ifeqP (tgt := 37) dX10_upper_26 (by decide) (fun c26 => ?_) (fun c26 => ?_)
        · refine e_ldc2 (z := (-1000000000000000002)) kcX10_159 (by decide) dX10_upper_37 ?_
          refine e_lreturn dX10_upper_40 rfl ?_
          exact kQm_0 (by unfold a_upper; rw [if_pos (by omega)]) md
        · refine e_iload rfl dX10_upper_29 ?_
          refine eS1 mtX10_isEnd msX10_isEnd lkX10_124 dX10_upper_31 rfl rfl (j_isEnd (by first | assumption | (unfold inI at *; omega))) ?_
          dsimp only [Option.toList, List.cons_append, List.nil_append]
          refine e_ifneP (tgt := 41) dX10_upper_34 (by decide) (fun c34 => ?_) (fun c34 => ?_)
          · refine e_lconst (z := 0) (by decide) dX10_upper_41 ?_
            refine e_lstore dX10_upper_42 rfl rfl ?_
            dsimp only [List.set]
            refine e_lconst (z := 0) (by decide) dX10_upper_44 ?_
            refine e_lstore dX10_upper_45 rfl rfl ?_
            dsimp only [List.set]
            refine e_lconst (z := 0) (by decide) dX10_upper_47 ?_
            refine e_lstore dX10_upper_48 rfl rfl ?_
            dsimp only [List.set]
            refine e_iconst dX10_upper_50 ?_
            refine e_istore dX10_upper_51 rfl rfl ?_
            dsimp only [List.set]
            exact j_upper_lp md (by omega) (by omega) (by omega) (by omega) (by omega) 100 0 _ _ _ _ none (by omega) (by omega) (by omega) rfl rfl rfl
          · refine e_ldc2 (z := (-1000000000000000002)) kcX10_159 (by decide) dX10_upper_37 ?_
            refine e_lreturn dX10_upper_40 rfl ?_
            exact kQm_0 (by unfold a_upper; rw [if_pos (by omega)]) md
set_option maxHeartbeats 4000000 in
set_option maxRecDepth 100000 in
theorem j_inchOf {G : kG} {d : Nat} {h : Nat → Option kC} {n : Nat} {v : Int} (v0 : 0 ≤ v ∧ v ≤ 63) : kCall G mX10_inchOf d 0 0 [.int (jI v)] h n (kre (some (.int (jI (kinch v)))) h n) := by
  show kE G mX10_inchOf d 0 0 0 [some (.int (jI v)), none, none] [] h n _
  refine e_iload_n rfl dX10_inchOf_0 ?_
  refine e_iconst dX10_inchOf_1 ?_
  refine e_iremN (by first | assumption | (unfold inI at *; omega)) (by first | assumption | (unfold inI at *; omega)) (by omega) (by omega) dX10_inchOf_2 ?_
  refine e_istore_n dX10_inchOf_3 rfl rfl ?_
  dsimp only [List.set]
  refine e_iload_n rfl dX10_inchOf_4 ?_
  refine e_iconst dX10_inchOf_5 ?_
  refine e_icmp_ne (tgt := 15) dX10_inchOf_6 (by decide) (by first | assumption | (unfold inI at *; omega)) (by first | assumption | (unfold inI at *; omega)) (fun c6 => ?_) (fun c6 => ?_)
  · refine e_iload_n rfl dX10_inchOf_15 ?_
    refine e_iload_n rfl dX10_inchOf_16 ?_
    refine e_isub dX10_inchOf_17 ?_
    refine e_istore_n dX10_inchOf_18 rfl rfl ?_
    dsimp only [List.set]
    refine e_iload_n rfl dX10_inchOf_19 ?_
    refine e_bipush (by decide) dX10_inchOf_20 ?_
    refine e_icmp_le (tgt := 30) dX10_inchOf_22 (by decide) (by first | assumption | (unfold inI at *; omega)) (by first | assumption | (unfold inI at *; omega)) (fun c22 => ?_) (fun c22 => ?_)
    · refine e_iload_n rfl dX10_inchOf_30 ?_
      refine e_ireturn dX10_inchOf_31 rfl rfl ?_
      refine ⟨?_, rfl, rfl⟩
      congr 3
      unfold kinch kmini
      (repeat' split) <;> omega
    · refine e_bipush (by decide) dX10_inchOf_25 ?_
      refine e_goto (tgt := 31) dX10_inchOf_27 (by decide) ?_
      refine e_ireturn dX10_inchOf_31 rfl rfl ?_
      refine ⟨?_, rfl, rfl⟩
      congr 3
      unfold kinch kmini
      (repeat' split) <;> omega
  · refine e_iload_n rfl dX10_inchOf_9 ?_
    refine e_iconst dX10_inchOf_10 ?_
    refine e_iadd dX10_inchOf_11 ?_
    refine e_goto (tgt := 18) dX10_inchOf_12 (by decide) ?_
    refine e_istore_n dX10_inchOf_18 rfl rfl ?_
    dsimp only [List.set]
    refine e_iload_n rfl dX10_inchOf_19 ?_
    refine e_bipush (by decide) dX10_inchOf_20 ?_
    refine e_icmp_le (tgt := 30) dX10_inchOf_22 (by decide) (by first | assumption | (unfold inI at *; omega)) (by first | assumption | (unfold inI at *; omega)) (fun c22 => ?_) (fun c22 => ?_)
    · refine e_iload_n rfl dX10_inchOf_30 ?_
      refine e_ireturn dX10_inchOf_31 rfl rfl ?_
      refine ⟨?_, rfl, rfl⟩
      congr 3
      unfold kinch kmini
      (repeat' split) <;> omega
    · refine e_bipush (by decide) dX10_inchOf_25 ?_
      refine e_goto (tgt := 31) dX10_inchOf_27 (by decide) ?_
      refine e_ireturn dX10_inchOf_31 rfl rfl ?_
      refine ⟨?_, rfl, rfl⟩
      congr 3
      unfold kinch kmini
      (repeat' split) <;> omega
set_option maxHeartbeats 4000000 in
set_option maxRecDepth 100000 in
theorem j_wr96 {G : kG} {d : Nat} {h : Nat → Option kC} {n : Nat} {q : Nat → Int} {F : Nat → Nat → Int} {l x y : Int} (l0 : 0 ≤ l ∧ l ≤ 63) (x0 : 0 ≤ x ∧ x ≤ 63) (y0 : 0 ≤ y ∧ y ≤ 63) {fv hp s : Int} {e4 : Option Value} : kE G mX10_writtenOf d 0 0 96 [some (.ref (gB G + 97)), some (.int (jI l)), some (.int (jI x)), some (.int (jI y)), e4, some (.int (jI fv)), some (.int (jI hp)), some (.int (jI s))] [] (kmh G h q F) n (kre (some (.int (jI (s + (if y = x then (10 - fv) * (10 - hp) else 0))))) (kmh G h q F) n) := by
  refine e_iload rfl dX10_writtenOf_96 ?_
  refine e_iload_n rfl dX10_writtenOf_98 ?_
  refine e_iload_n rfl dX10_writtenOf_99 ?_
  refine e_icmp_ne (tgt := 117) dX10_writtenOf_100 (by decide) (by first | assumption | (unfold inI at *; omega)) (by first | assumption | (unfold inI at *; omega)) (fun c100 => ?_) (fun c100 => ?_)
  · refine e_iconst dX10_writtenOf_117 ?_
    refine e_iadd dX10_writtenOf_118 ?_
    refine e_ireturn dX10_writtenOf_119 rfl rfl ?_
    exact ⟨by first | rw [if_pos (by assumption)] | rw [if_neg (by assumption)], rfl, rfl⟩
  · refine e_bipush (by decide) dX10_writtenOf_103 ?_
    refine e_iload rfl dX10_writtenOf_105 ?_
    refine e_isub dX10_writtenOf_107 ?_
    refine e_bipush (by decide) dX10_writtenOf_108 ?_
    refine e_iload rfl dX10_writtenOf_110 ?_
    refine e_isub dX10_writtenOf_112 ?_
    refine e_imul dX10_writtenOf_113 ?_
    refine e_goto (tgt := 118) dX10_writtenOf_114 (by decide) ?_
    refine e_iadd dX10_writtenOf_118 ?_
    refine e_ireturn dX10_writtenOf_119 rfl rfl ?_
    exact ⟨by first | rw [if_pos (by assumption)] | rw [if_neg (by assumption)], rfl, rfl⟩
set_option maxHeartbeats 4000000 in
set_option maxRecDepth 100000 in
theorem j_wr71 {G : kG} {d : Nat} {h : Nat → Option kC} {n : Nat} {q : Nat → Int} {F : Nat → Nat → Int} {l x y : Int} (l0 : 0 ≤ l ∧ l ≤ 63) (x0 : 0 ≤ x ∧ x ≤ 63) (y0 : 0 ≤ y ∧ y ≤ 63) {fv hp s : Int} {e4 : Option Value} : kE G mX10_writtenOf (d + 1) 0 0 71 [some (.ref (gB G + 97)), some (.int (jI l)), some (.int (jI x)), some (.int (jI y)), e4, some (.int (jI fv)), some (.int (jI hp)), some (.int (jI s))] [] (kmh G h q F) n (kre (some (.int (jI ((s + (if y = kinch x then (10 - fv) * hp else 0)) + (if y = x then (10 - fv) * (10 - hp) else 0))))) (kmh G h q F) n) := by
  refine e_iload rfl dX10_writtenOf_71 ?_
  refine e_iload_n rfl dX10_writtenOf_73 ?_
  refine e_iload_n rfl dX10_writtenOf_74 ?_
  refine eS1 mtX10_inchOf msX10_inchOf lkX10_208 dX10_writtenOf_75 rfl rfl (j_inchOf (by omega)) ?_
  dsimp only [Option.toList, List.cons_append, List.nil_append]
  have q9 := kinch_in x0.1 x0.2
  refine e_icmp_ne (tgt := 92) dX10_writtenOf_78 (by decide) (by first | assumption | (unfold inI at *; omega)) (by first | assumption | (unfold inI at *; omega)) (fun c78 => ?_) (fun c78 => ?_)
  · refine e_iconst dX10_writtenOf_92 ?_
    refine e_iadd dX10_writtenOf_93 ?_
    refine e_istore dX10_writtenOf_94 rfl rfl ?_
    dsimp only [List.set]
    refine kE.mono (j_wr96 l0 x0 y0) (fun r h' n' hq => ?_)
    obtain ⟨w1, w2, w3⟩ := hq
    refine ⟨?_, w2, w3⟩
    rw [w1]
    first | rw [if_pos c78] | rw [if_neg c78]
  · refine e_bipush (by decide) dX10_writtenOf_81 ?_
    refine e_iload rfl dX10_writtenOf_83 ?_
    refine e_isub dX10_writtenOf_85 ?_
    refine e_iload rfl dX10_writtenOf_86 ?_
    refine e_imul dX10_writtenOf_88 ?_
    refine e_goto (tgt := 93) dX10_writtenOf_89 (by decide) ?_
    refine e_iadd dX10_writtenOf_93 ?_
    refine e_istore dX10_writtenOf_94 rfl rfl ?_
    dsimp only [List.set]
    refine kE.mono (j_wr96 l0 x0 y0) (fun r h' n' hq => ?_)
    obtain ⟨w1, w2, w3⟩ := hq
    refine ⟨?_, w2, w3⟩
    rw [w1]
    first | rw [if_pos c78] | rw [if_neg c78]
set_option maxHeartbeats 4000000 in
set_option maxRecDepth 100000 in
theorem j_wr37 {G : kG} {d : Nat} {h : Nat → Option kC} {n : Nat} {q : Nat → Int} {F : Nat → Nat → Int} {Z : kCs} (md : rMD q F Z) (ok : kCok Z) {l x y : Int} (l0 : 0 ≤ l ∧ l ≤ 63) (x0 : 0 ≤ x ∧ x ≤ 63) (y0 : 0 ≤ y ∧ y ≤ 63) {fv : Int} {e4 e6 e7 : Option Value} : kE G mX10_writtenOf (d + 1) 0 0 37 [some (.ref (gB G + 97)), some (.int (jI l)), some (.int (jI x)), some (.int (jI y)), e4, some (.int (jI fv)), e6, e7] [] (kmh G h q F) n (kre (some (.int (jI ((if y = l then 10 * fv else 0) + (if y = kinch x then (10 - fv) * khp (hW (cN Z)) x else 0) + (if y = x then (10 - fv) * (10 - khp (hW (cN Z)) x) else 0))))) (kmh G h q F) n) := by
  refine e_iload_n rfl dX10_writtenOf_37 ?_
  refine e_iconst dX10_writtenOf_38 ?_
  refine e_iremN (by first | assumption | (unfold inI at *; omega)) (by first | assumption | (unfold inI at *; omega)) (by omega) (by omega) dX10_writtenOf_39 ?_
  refine e_if_ne (tgt := 47) dX10_writtenOf_40 (by decide) (by first | assumption | (unfold inI at *; omega)) (fun c40 => ?_) (fun c40 => ?_)
  · refine e_aload_n rfl dX10_writtenOf_47 ?_
    refine e_getf fdX10_22 dX10_writtenOf_48 kmh_97 rfl ?_
    refine e_iconst dX10_writtenOf_51 ?_
    refine e_mld (by first | exact ka98 | exact ka99 | exact ka100 | exact ka101 | exact ka102 | exact ka103 | exact ka104 | exact ka105 | exact ka106 | exact ka107 | exact ka108 | exact ka109 | exact ka110 | exact ka111 | exact ka112 | exact ka113) dX10_writtenOf_52 (by omega) (by omega) ?_
    rw [show (1 : Int).toNat = 1 from rfl, md_w md (by omega)]
    refine e_istore dX10_writtenOf_53 rfl rfl ?_
    dsimp only [List.set]
    refine e_iload_n rfl dX10_writtenOf_55 ?_
    refine e_iload_n rfl dX10_writtenOf_56 ?_
    refine e_icmp_ne (tgt := 68) dX10_writtenOf_57 (by decide) (by first | assumption | (unfold inI at *; omega)) (by first | assumption | (unfold inI at *; omega)) (fun c57 => ?_) (fun c57 => ?_)
    · refine e_iconst dX10_writtenOf_68 ?_
      refine e_istore dX10_writtenOf_69 rfl rfl ?_
      dsimp only [List.set]
      refine kE.mono (j_wr71 l0 x0 y0) (fun r h' n' hq => ?_)
      obtain ⟨w1, w2, w3⟩ := hq
      refine ⟨?_, w2, w3⟩
      rw [w1]
      unfold khp
      first | rw [if_pos c40] | rw [if_neg c40]
      first | rw [if_pos c57] | rw [if_neg c57]
    · refine e_bipush (by decide) dX10_writtenOf_60 ?_
      refine e_iload rfl dX10_writtenOf_62 ?_
      refine e_imul dX10_writtenOf_64 ?_
      refine e_goto (tgt := 69) dX10_writtenOf_65 (by decide) ?_
      refine e_istore dX10_writtenOf_69 rfl rfl ?_
      dsimp only [List.set]
      refine kE.mono (j_wr71 l0 x0 y0) (fun r h' n' hq => ?_)
      obtain ⟨w1, w2, w3⟩ := hq
      refine ⟨?_, w2, w3⟩
      rw [w1]
      unfold khp
      first | rw [if_pos c40] | rw [if_neg c40]
      first | rw [if_pos c57] | rw [if_neg c57]
  · refine e_iconst dX10_writtenOf_43 ?_
    refine e_goto (tgt := 53) dX10_writtenOf_44 (by decide) ?_
    refine e_istore dX10_writtenOf_53 rfl rfl ?_
    dsimp only [List.set]
    refine e_iload_n rfl dX10_writtenOf_55 ?_
    refine e_iload_n rfl dX10_writtenOf_56 ?_
    refine e_icmp_ne (tgt := 68) dX10_writtenOf_57 (by decide) (by first | assumption | (unfold inI at *; omega)) (by first | assumption | (unfold inI at *; omega)) (fun c57 => ?_) (fun c57 => ?_)
    · refine e_iconst dX10_writtenOf_68 ?_
      refine e_istore dX10_writtenOf_69 rfl rfl ?_
      dsimp only [List.set]
      refine kE.mono (j_wr71 l0 x0 y0) (fun r h' n' hq => ?_)
      obtain ⟨w1, w2, w3⟩ := hq
      refine ⟨?_, w2, w3⟩
      rw [w1]
      unfold khp
      first | rw [if_pos c40] | rw [if_neg c40]
      first | rw [if_pos c57] | rw [if_neg c57]
    · refine e_bipush (by decide) dX10_writtenOf_60 ?_
      refine e_iload rfl dX10_writtenOf_62 ?_
      refine e_imul dX10_writtenOf_64 ?_
      refine e_goto (tgt := 69) dX10_writtenOf_65 (by decide) ?_
      refine e_istore dX10_writtenOf_69 rfl rfl ?_
      dsimp only [List.set]
      refine kE.mono (j_wr71 l0 x0 y0) (fun r h' n' hq => ?_)
      obtain ⟨w1, w2, w3⟩ := hq
      refine ⟨?_, w2, w3⟩
      rw [w1]
      unfold khp
      first | rw [if_pos c40] | rw [if_neg c40]
      first | rw [if_pos c57] | rw [if_neg c57]
set_option maxHeartbeats 4000000 in
set_option maxRecDepth 100000 in
theorem j_writtenOf {G : kG} {d : Nat} {h : Nat → Option kC} {n : Nat} {q : Nat → Int} {F : Nat → Nat → Int} {Z : kCs} (md : rMD q F Z) (ok : kCok Z) {l x y : Int} (l0 : 0 ≤ l ∧ l ≤ 63) (x0 : 0 ≤ x ∧ x ≤ 63) (y0 : 0 ≤ y ∧ y ≤ 63)  : kCall G mX10_writtenOf (d + 1) 0 0 [.ref (gB G + 97), .int (jI l), .int (jI x), .int (jI y)] (kmh G h q F) n (kre (some (.int (jI (kwr (hW (cN Z)) l x y)))) (kmh G h q F) n) := by
  show kE G mX10_writtenOf (d + 1) 0 0 0 [some (.ref (gB G + 97)), some (.int (jI l)), some (.int (jI x)), some (.int (jI y)), none, none, none, none] [] (kmh G h q F) n _
  obtain ⟨⟨w00, w01⟩, ⟨w10, w11⟩, ⟨w20, w21⟩, ⟨w30, w31⟩, ⟨w40, w41⟩⟩ := id ok.1.2.2.1
  refine e_iload_n rfl dX10_writtenOf_0 ?_
  refine e_iload_n rfl dX10_writtenOf_1 ?_
  refine e_isub dX10_writtenOf_2 ?_
  refine e_istore dX10_writtenOf_3 rfl rfl ?_
  dsimp only [List.set]
  refine e_iload_n rfl dX10_writtenOf_5 ?_
  refine e_if_le (tgt := 34) dX10_writtenOf_6 (by decide) (by first | assumption | (unfold inI at *; omega)) (fun c6 => ?_) (fun c6 => ?_)
  · refine e_iconst dX10_writtenOf_34 ?_
    refine e_istore dX10_writtenOf_35 rfl rfl ?_
    dsimp only [List.set]
    refine kE.mono (j_wr37 md ok l0 x0 y0) (fun r h' n' hq => ?_)
    obtain ⟨w1, w2, w3⟩ := hq
    refine ⟨?_, w2, w3⟩
    rw [w1]
    unfold kwr kfv
    first | rw [if_pos (show x < l ∧ l - x ≤ hW (cN Z) 2 by omega)] | rw [if_neg (show ¬ (x < l ∧ l - x ≤ hW (cN Z) 2) by omega)]
  · refine e_iload rfl dX10_writtenOf_9 ?_
    refine e_if_le (tgt := 34) dX10_writtenOf_11 (by decide) (by first | assumption | (unfold inI at *; omega)) (fun c11 => ?_) (fun c11 => ?_)
    · refine e_iconst dX10_writtenOf_34 ?_
      refine e_istore dX10_writtenOf_35 rfl rfl ?_
      dsimp only [List.set]
      refine kE.mono (j_wr37 md ok l0 x0 y0) (fun r h' n' hq => ?_)
      obtain ⟨w1, w2, w3⟩ := hq
      refine ⟨?_, w2, w3⟩
      rw [w1]
      unfold kwr kfv
      first | rw [if_pos (show x < l ∧ l - x ≤ hW (cN Z) 2 by omega)] | rw [if_neg (show ¬ (x < l ∧ l - x ≤ hW (cN Z) 2) by omega)]
    · refine e_iload rfl dX10_writtenOf_14 ?_
      refine e_aload_n rfl dX10_writtenOf_16 ?_
      refine e_getf fdX10_22 dX10_writtenOf_17 kmh_97 rfl ?_
      refine e_iconst dX10_writtenOf_20 ?_
      refine e_mld (by first | exact ka98 | exact ka99 | exact ka100 | exact ka101 | exact ka102 | exact ka103 | exact ka104 | exact ka105 | exact ka106 | exact ka107 | exact ka108 | exact ka109 | exact ka110 | exact ka111 | exact ka112 | exact ka113) dX10_writtenOf_21 (by omega) (by omega) ?_
      rw [show (2 : Int).toNat = 2 from rfl, md_w md (by omega)]
      refine e_icmp_gt (tgt := 34) dX10_writtenOf_22 (by decide) (by first | assumption | (unfold inI at *; omega)) (by first | assumption | (unfold inI at *; omega)) (fun c22 => ?_) (fun c22 => ?_)
      · refine e_iconst dX10_writtenOf_34 ?_
        refine e_istore dX10_writtenOf_35 rfl rfl ?_
        dsimp only [List.set]
        refine kE.mono (j_wr37 md ok l0 x0 y0) (fun r h' n' hq => ?_)
        obtain ⟨w1, w2, w3⟩ := hq
        refine ⟨?_, w2, w3⟩
        rw [w1]
        unfold kwr kfv
        first | rw [if_pos (show x < l ∧ l - x ≤ hW (cN Z) 2 by omega)] | rw [if_neg (show ¬ (x < l ∧ l - x ≤ hW (cN Z) 2) by omega)]
      · refine e_aload_n rfl dX10_writtenOf_25 ?_
        refine e_getf fdX10_22 dX10_writtenOf_26 kmh_97 rfl ?_
        refine e_iconst dX10_writtenOf_29 ?_
        refine e_mld (by first | exact ka98 | exact ka99 | exact ka100 | exact ka101 | exact ka102 | exact ka103 | exact ka104 | exact ka105 | exact ka106 | exact ka107 | exact ka108 | exact ka109 | exact ka110 | exact ka111 | exact ka112 | exact ka113) dX10_writtenOf_30 (by omega) (by omega) ?_
        rw [show (3 : Int).toNat = 3 from rfl, md_w md (by omega)]
        refine e_goto (tgt := 35) dX10_writtenOf_31 (by decide) ?_
        refine e_istore dX10_writtenOf_35 rfl rfl ?_
        dsimp only [List.set]
        refine kE.mono (j_wr37 md ok l0 x0 y0) (fun r h' n' hq => ?_)
        obtain ⟨w1, w2, w3⟩ := hq
        refine ⟨?_, w2, w3⟩
        rw [w1]
        unfold kwr kfv
        first | rw [if_pos (show x < l ∧ l - x ≤ hW (cN Z) 2 by omega)] | rw [if_neg (show ¬ (x < l ∧ l - x ≤ hW (cN Z) 2) by omega)]
set_option maxHeartbeats 4000000 in
set_option maxRecDepth 100000 in
theorem j_written {G : kG} {d : Nat} {h : Nat → Option kC} {n : Nat} {q : Nat → Int} {F : Nat → Nat → Int} {Z : kCs} (md : rMD q F Z) (ok : kCok Z)  {l : Int} (hl : inI l) {x : Int} (hx : inI x) {y : Int} (hy : inI y) {p : Int} (hp : inI p) : kCall G mX10_written (d + 4) 0 0 [.ref (gB G + 97), .int (jI l), .int (jI x), .int (jI y), .int (jI p)] (kmh G h q F) n (kQm G h n (.long (jL (a_written Z l x y p))) (Z)) := by
  show kE G mX10_written (d + 4) 0 0 0 [some (.ref (gB G + 97)), some (.int (jI l)), some (.int (jI x)), some (.int (jI y)), some (.int (jI p))] [] (kmh G h q F) n _
  refine e_iload_n rfl dX10_written_0 ?_
  refine eS1 mtX10_isHeight msX10_isHeight lkX10_80 dX10_written_1 rfl rfl (j_isHeight (by first | assumption | (unfold inI at *; omega))) ?_
  dsimp only [Option.toList, List.cons_append, List.nil_append]
  refine e_ifeqP (tgt := 29) dX10_written_4 (by decide) (fun c4 => ?_) (fun c4 => ?_)
  · refine e_ldc2 (z := (-1000000000000000002)) kcX10_159 (by decide) dX10_written_29 ?_
    refine e_lreturn dX10_written_32 rfl ?_
    exact kQm_0 (by unfold a_written; (repeat' split) <;> first | rfl | (exfalso; omega)) md
  · refine e_iload_n rfl dX10_written_7 ?_
    refine eS1 mtX10_isHeight msX10_isHeight lkX10_80 dX10_written_8 rfl rfl (j_isHeight (by first | assumption | (unfold inI at *; omega))) ?_
    dsimp only [Option.toList, List.cons_append, List.nil_append]
    refine e_ifeqP (tgt := 29) dX10_written_11 (by decide) (fun c11 => ?_) (fun c11 => ?_)
    · refine e_ldc2 (z := (-1000000000000000002)) kcX10_159 (by decide) dX10_written_29 ?_
      refine e_lreturn dX10_written_32 rfl ?_
      exact kQm_0 (by unfold a_written; (repeat' split) <;> first | rfl | (exfalso; omega)) md
    · refine e_iload_n rfl dX10_written_14 ?_
      refine eS1 mtX10_isHeight msX10_isHeight lkX10_80 dX10_written_15 rfl rfl (j_isHeight (by first | assumption | (unfold inI at *; omega))) ?_
      dsimp only [Option.toList, List.cons_append, List.nil_append]
      refine e_ifeqP (tgt := 29) dX10_written_18 (by decide) (fun c18 => ?_) (fun c18 => ?_)
      · refine e_ldc2 (z := (-1000000000000000002)) kcX10_159 (by decide) dX10_written_29 ?_
        refine e_lreturn dX10_written_32 rfl ?_
        exact kQm_0 (by unfold a_written; (repeat' split) <;> first | rfl | (exfalso; omega)) md
      · refine e_iload rfl dX10_written_21 ?_
        refine eS1 mtX10_isEnd msX10_isEnd lkX10_124 dX10_written_23 rfl rfl (j_isEnd (by first | assumption | (unfold inI at *; omega))) ?_
        dsimp only [Option.toList, List.cons_append, List.nil_append]
        refine e_ifneP (tgt := 33) dX10_written_26 (by decide) (fun c26 => ?_) (fun c26 => ?_)
        · refine e_aload_n rfl dX10_written_33 ?_
          refine e_iload_n rfl dX10_written_34 ?_
          refine e_iload_n rfl dX10_written_35 ?_
          refine e_iload_n rfl dX10_written_36 ?_
          refine eV3 mtX10_writtenOf miX10_writtenOf lkX10_211 dX10_written_37 kmh_97 rfl rfl rfl (j_writtenOf md ok (by omega) (by omega) (by omega)) ?_
          dsimp only [Option.toList, List.cons_append, List.nil_append]
          have q8 := kwr_in ok.1.2.2.1 l x y
          refine e_i2l (by first | assumption | (unfold inI at *; omega)) dX10_written_40 ?_
          refine e_ldc2 (z := 100) kcX10_214 (by decide) dX10_written_41 ?_
          refine e_iload rfl dX10_written_44 ?_
          refine eS3 mtX10_lowest msX10_lowest lkX10_161 dX10_written_46 rfl rfl (j_lowest (by omega) (by omega) (by omega) (by omega) (by omega) (by omega)) ?_
          dsimp only [Option.toList, List.cons_append, List.nil_append]
          refine e_lreturn dX10_written_49 rfl ?_
          exact kQm_0 (by unfold a_written; (repeat' split) <;> first | rfl | (exfalso; omega)) md
        · refine e_ldc2 (z := (-1000000000000000002)) kcX10_159 (by decide) dX10_written_29 ?_
          refine e_lreturn dX10_written_32 rfl ?_
          exact kQm_0 (by unfold a_written; (repeat' split) <;> first | rfl | (exfalso; omega)) md
set_option maxHeartbeats 4000000 in
set_option maxRecDepth 100000 in
theorem j_back_lp {G : kG} {d : Nat} {h : Nat → Option kC} {n : Nat} {q : Nat → Int} {F : Nat → Nat → Int} {Z : kCs} (md : rMD q F Z) (ok : kCok Z) {m w l y x p : Int} (hv : (((0 ≤ m ∧ m ≤ 63) ∧ 1 ≤ w ∧ w ≤ 8) ∧ (0 ≤ l ∧ l ≤ 63) ∧ (0 ≤ y ∧ y ≤ 63) ∧ (0 ≤ x ∧ x ≤ 63) ∧ 0 ≤ p ∧ p ≤ 1))  : ∀ (f : Nat) (i : Nat) (c v : Int), v = (i : Int) → i ≤ 64 → 64 - (i : Int) ≤ f → c = ksum (fun x => khm m w x * kwr (hW (cN Z)) l x y) i → kE G mX10_back (d + 4) 0 0 55 [some (.ref (gB G + 97)), some (.int (jI m)), some (.int (jI w)), some (.int (jI l)), some (.int (jI y)), some (.int (jI x)), some (.int (jI p)), some (.long (jL c)), none, some (.int (jI v))] [] (kmh G h q F) n (kQm G h n (.long (jL (a_back Z m w l y x p))) (Z)) := by
  intro f
  induction f with
  | zero =>
    intro i c v g1 g2 g3 g4
    refine e_iload rfl dX10_back_55 ?_
    refine e_bipush (by decide) dX10_back_57 ?_
    refine e_icmp_ge (tgt := 92) dX10_back_59 (by decide) (by first | assumption | (unfold inI at *; omega)) (by first | assumption | (unfold inI at *; omega)) (fun c59 => ?_) (fun c59 => ?_)
    · refine e_iload_n rfl dX10_back_92 ?_
      refine e_iload_n rfl dX10_back_93 ?_
      refine e_iload rfl dX10_back_94 ?_
      refine eS3 mtX10_humpOf msX10_humpOf lkX10_155 dX10_back_96 rfl rfl (j_humpOf (by omega) (by omega) (by omega)) ?_
      dsimp only [Option.toList, List.cons_append, List.nil_append]
      have q8 := khm_in (m := m) (w := w) (by omega) (by omega) x
      refine e_i2l (by first | assumption | (unfold inI at *; omega)) dX10_back_99 ?_
      refine e_aload_n rfl dX10_back_100 ?_
      refine e_iload_n rfl dX10_back_101 ?_
      refine e_iload rfl dX10_back_102 ?_
      refine e_iload rfl dX10_back_104 ?_
      refine eV3 mtX10_writtenOf miX10_writtenOf lkX10_211 dX10_back_106 kmh_97 rfl rfl rfl (j_writtenOf md ok (by omega) (by omega) (by omega)) ?_
      dsimp only [Option.toList, List.cons_append, List.nil_append]
      have q7 := kwr_in ok.1.2.2.1 l x y
      have q6 := khw_in ok.1.2.2.1 (m := m) (w := w) (by omega) (by omega) l x y
      have q5 := kbs_in ok.1.2.2.1 (m := m) (w := w) (by omega) (by omega) l y
      have q4 : c = kbs (hW (cN Z)) m w l y := by rw [g4, show i = 64 by omega]; rfl
      refine e_i2l (by first | assumption | (unfold inI at *; omega)) dX10_back_109 ?_
      refine e_lmul dX10_back_110 ?_
      refine e_lload rfl dX10_back_111 ?_
      refine e_iload rfl dX10_back_113 ?_
      refine eS3 mtX10_lowest msX10_lowest lkX10_161 dX10_back_115 rfl rfl (j_lowest (by omega) (by omega) (by omega) (by omega) (by omega) (by omega)) ?_
      dsimp only [Option.toList, List.cons_append, List.nil_append]
      refine e_lreturn dX10_back_118 rfl ?_
      exact kQm_0 (by rw [g4, show i = 64 by omega]; unfold a_back; rw [if_neg (by omega)]; rfl) md
    · exact absurd c59 (by omega)
  | succ f ih =>
    intro i c v g1 g2 g3 g4
    subst g1
    refine e_iload rfl dX10_back_55 ?_
    refine e_bipush (by decide) dX10_back_57 ?_
    refine e_icmp_ge (tgt := 92) dX10_back_59 (by decide) (by first | assumption | (unfold inI at *; omega)) (by first | assumption | (unfold inI at *; omega)) (fun c59 => ?_) (fun c59 => ?_)
    · refine e_iload_n rfl dX10_back_92 ?_
      refine e_iload_n rfl dX10_back_93 ?_
      refine e_iload rfl dX10_back_94 ?_
      refine eS3 mtX10_humpOf msX10_humpOf lkX10_155 dX10_back_96 rfl rfl (j_humpOf (by omega) (by omega) (by omega)) ?_
      dsimp only [Option.toList, List.cons_append, List.nil_append]
      have q8 := khm_in (m := m) (w := w) (by omega) (by omega) x
      refine e_i2l (by first | assumption | (unfold inI at *; omega)) dX10_back_99 ?_
      refine e_aload_n rfl dX10_back_100 ?_
      refine e_iload_n rfl dX10_back_101 ?_
      refine e_iload rfl dX10_back_102 ?_
      refine e_iload rfl dX10_back_104 ?_
      refine eV3 mtX10_writtenOf miX10_writtenOf lkX10_211 dX10_back_106 kmh_97 rfl rfl rfl (j_writtenOf md ok (by omega) (by omega) (by omega)) ?_
      dsimp only [Option.toList, List.cons_append, List.nil_append]
      have q7 := kwr_in ok.1.2.2.1 l x y
      have q6 := khw_in ok.1.2.2.1 (m := m) (w := w) (by omega) (by omega) l x y
      have q5 := kbs_in ok.1.2.2.1 (m := m) (w := w) (by omega) (by omega) l y
      have q4 : c = kbs (hW (cN Z)) m w l y := by rw [g4, show i = 64 by omega]; rfl
      refine e_i2l (by first | assumption | (unfold inI at *; omega)) dX10_back_109 ?_
      refine e_lmul dX10_back_110 ?_
      refine e_lload rfl dX10_back_111 ?_
      refine e_iload rfl dX10_back_113 ?_
      refine eS3 mtX10_lowest msX10_lowest lkX10_161 dX10_back_115 rfl rfl (j_lowest (by omega) (by omega) (by omega) (by omega) (by omega) (by omega)) ?_
      dsimp only [Option.toList, List.cons_append, List.nil_append]
      refine e_lreturn dX10_back_118 rfl ?_
      exact kQm_0 (by rw [g4, show i = 64 by omega]; unfold a_back; rw [if_neg (by omega)]; rfl) md
    · refine e_lload rfl dX10_back_62 ?_
      refine e_iload_n rfl dX10_back_64 ?_
      refine e_iload_n rfl dX10_back_65 ?_
      refine e_iload rfl dX10_back_66 ?_
      refine eS3 mtX10_humpOf msX10_humpOf lkX10_155 dX10_back_68 rfl rfl (j_humpOf (by omega) (by omega) (by omega)) ?_
      dsimp only [Option.toList, List.cons_append, List.nil_append]
      have q8 := khm_in (m := m) (w := w) (by omega) (by omega) (i : Int)
      refine e_i2l (by first | assumption | (unfold inI at *; omega)) dX10_back_71 ?_
      refine e_aload_n rfl dX10_back_72 ?_
      refine e_iload_n rfl dX10_back_73 ?_
      refine e_iload rfl dX10_back_74 ?_
      refine e_iload rfl dX10_back_76 ?_
      refine eV3 mtX10_writtenOf miX10_writtenOf lkX10_211 dX10_back_78 kmh_97 rfl rfl rfl (j_writtenOf md ok (by omega) (by omega) (by omega)) ?_
      dsimp only [Option.toList, List.cons_append, List.nil_append]
      have q7 := kwr_in ok.1.2.2.1 l (i : Int) y
      refine e_i2l (by first | assumption | (unfold inI at *; omega)) dX10_back_81 ?_
      refine e_lmul dX10_back_82 ?_
      refine e_ladd dX10_back_83 ?_
      refine e_lstore dX10_back_84 rfl rfl ?_
      dsimp only [List.set]
      refine e_iinc dX10_back_86 rfl rfl ?_
      dsimp only [List.set]
      refine e_goto (tgt := 55) dX10_back_89 (by decide) ?_
      exact ih (i + 1) _ _ (by omega) (by omega) (by omega) (by rw [g4, ksum_s])
set_option maxHeartbeats 4000000 in
set_option maxRecDepth 100000 in
theorem j_back {G : kG} {d : Nat} {h : Nat → Option kC} {n : Nat} {q : Nat → Int} {F : Nat → Nat → Int} {Z : kCs} (md : rMD q F Z) (ok : kCok Z)  {m : Int} (hm : inI m) {w : Int} (hw : inI w) {l : Int} (hl : inI l) {y : Int} (hy : inI y) {x : Int} (hx : inI x) {p : Int} (hp : inI p) : kCall G mX10_back (d + 4) 0 0 [.ref (gB G + 97), .int (jI m), .int (jI w), .int (jI l), .int (jI y), .int (jI x), .int (jI p)] (kmh G h q F) n (kQm G h n (.long (jL (a_back Z m w l y x p))) (Z)) := by
  show kE G mX10_back (d + 4) 0 0 0 [some (.ref (gB G + 97)), some (.int (jI m)), some (.int (jI w)), some (.int (jI l)), some (.int (jI y)), some (.int (jI x)), some (.int (jI p)), none, none, none] [] (kmh G h q F) n _
  refine e_iload_n rfl dX10_back_0 ?_
  refine eS1 mtX10_isHeight msX10_isHeight lkX10_80 dX10_back_1 rfl rfl (j_isHeight (by first | assumption | (unfold inI at *; omega))) ?_
  dsimp only [Option.toList, List.cons_append, List.nil_append]
  refine e_ifeqP (tgt := 45) dX10_back_4 (by decide) (fun c4 => ?_) (fun c4 => ?_)
  · refine e_ldc2 (z := (-1000000000000000002)) kcX10_159 (by decide) dX10_back_45 ?_
    refine e_lreturn dX10_back_48 rfl ?_
    exact kQm_0 (by unfold a_back; rw [if_pos (by omega)]) md
  · refine e_iload_n rfl dX10_back_7 ?_
    refine eS1 mtX10_isWidth msX10_isWidth lkX10_152 dX10_back_8 rfl rfl (j_isWidth (by first | assumption | (unfold inI at *; omega))) ?_
    dsimp only [Option.toList, List.cons_append, List.nil_append]
    refine e_ifeqP (tgt := 45) dX10_back_11 (by decide) (fun c11 => ?_) (fun c11 => ?_)
    · refine e_ldc2 (z := (-1000000000000000002)) kcX10_159 (by decide) dX10_back_45 ?_
      refine e_lreturn dX10_back_48 rfl ?_
      exact kQm_0 (by unfold a_back; rw [if_pos (by omega)]) md
    · refine e_iload_n rfl dX10_back_14 ?_
      refine eS1 mtX10_isHeight msX10_isHeight lkX10_80 dX10_back_15 rfl rfl (j_isHeight (by first | assumption | (unfold inI at *; omega))) ?_
      dsimp only [Option.toList, List.cons_append, List.nil_append]
      refine e_ifeqP (tgt := 45) dX10_back_18 (by decide) (fun c18 => ?_) (fun c18 => ?_)
      · refine e_ldc2 (z := (-1000000000000000002)) kcX10_159 (by decide) dX10_back_45 ?_
        refine e_lreturn dX10_back_48 rfl ?_
        exact kQm_0 (by unfold a_back; rw [if_pos (by omega)]) md
      · refine e_iload rfl dX10_back_21 ?_
        refine eS1 mtX10_isHeight msX10_isHeight lkX10_80 dX10_back_23 rfl rfl (j_isHeight (by first | assumption | (unfold inI at *; omega))) ?_
        dsimp only [Option.toList, List.cons_append, List.nil_append]
        refine e_ifeqP (tgt := 45) dX10_back_26 (by decide) (fun c26 => ?_) (fun c26 => ?_)
        · refine e_ldc2 (z := (-1000000000000000002)) kcX10_159 (by decide) dX10_back_45 ?_
          refine e_lreturn dX10_back_48 rfl ?_
          exact kQm_0 (by unfold a_back; rw [if_pos (by omega)]) md
        · refine e_iload rfl dX10_back_29 ?_
          refine eS1 mtX10_isHeight msX10_isHeight lkX10_80 dX10_back_31 rfl rfl (j_isHeight (by first | assumption | (unfold inI at *; omega))) ?_
          dsimp only [Option.toList, List.cons_append, List.nil_append]
          refine e_ifeqP (tgt := 45) dX10_back_34 (by decide) (fun c34 => ?_) (fun c34 => ?_)
          · refine e_ldc2 (z := (-1000000000000000002)) kcX10_159 (by decide) dX10_back_45 ?_
            refine e_lreturn dX10_back_48 rfl ?_
            exact kQm_0 (by unfold a_back; rw [if_pos (by omega)]) md
          · refine e_iload rfl dX10_back_37 ?_
            refine eS1 mtX10_isEnd msX10_isEnd lkX10_124 dX10_back_39 rfl rfl (j_isEnd (by first | assumption | (unfold inI at *; omega))) ?_
            dsimp only [Option.toList, List.cons_append, List.nil_append]
            refine e_ifneP (tgt := 49) dX10_back_42 (by decide) (fun c42 => ?_) (fun c42 => ?_)
            · refine e_lconst (z := 0) (by decide) dX10_back_49 ?_
              refine e_lstore dX10_back_50 rfl rfl ?_
              dsimp only [List.set]
              refine e_iconst dX10_back_52 ?_
              refine e_istore dX10_back_53 rfl rfl ?_
              dsimp only [List.set]
              exact j_back_lp md ok (by omega) 100 0 _ _ (by omega) (by omega) (by omega) rfl
            · refine e_ldc2 (z := (-1000000000000000002)) kcX10_159 (by decide) dX10_back_45 ?_
              refine e_lreturn dX10_back_48 rfl ?_
              exact kQm_0 (by unfold a_back; rw [if_pos (by omega)]) md
