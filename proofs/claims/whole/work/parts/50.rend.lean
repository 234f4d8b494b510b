/-! THE REFERENCE: ALONE -/
theorem kgap_alg {s1 c1 s2 c2 g j N : Int} : (g * s1 + (N - g) * s2) * (j * c1 + (N - j) * c2) - (j * s1 + (N - j) * s2) * (g * c1 + (N - g) * c2) = N * ((g - j) * (s1 * c2 - s2 * c1)) := by
  simp only [Int.add_mul, Int.mul_add, Int.sub_mul, Int.mul_sub, Int.mul_assoc, Int.mul_comm, Int.mul_left_comm]
  omega
theorem kgap_D (s1 c1 s2 c2 g j : Int) : kgap s1 c1 s2 c2 g j = 100 * ((g - j) * (s1 * c2 - s2 * c1)) := kgap_alg
theorem kC0 {c1 c2 g a b : Int} (h1 : 0 ≤ c1) (h2 : 0 ≤ c2) (ha : 0 ≤ a) (hag : a ≤ g) (hgb : g ≤ b) (hb : b ≤ 100) (h : kg2 c1 c2 g = 0) : kg2 c1 c2 a = 0 ∨ kg2 c1 c2 b = 0 := by
  have p1 : 0 ≤ g * c1 := Int.mul_nonneg (by omega) h1
  have p2 : 0 ≤ (100 - g) * c2 := Int.mul_nonneg (by omega) h2
  have e1 : g * c1 = 0 := by unfold kg2 at h; omega
  have e2 : (100 - g) * c2 = 0 := by unfold kg2 at h; omega
  rcases Int.mul_eq_zero.mp e1 with e3 | e3
  · left
    rw [show a = g by omega]
    exact h
  · rcases Int.mul_eq_zero.mp e2 with e4 | e4
    · right
      rw [show b = g by omega]
      exact h
    · left
      unfold kg2
      rw [e3, e4, Int.mul_zero, Int.mul_zero]
      rfl
/-- the share that is found from a on, before g -/
def ksh (D k a g : Int) : Int := if (k = 1 ∧ 0 < D) ∨ (¬ k = 1 ∧ D < 0) then g - 1 else a
theorem ksh_s {D k a g : Int} (h : a < g) : ksh D k a (g + 1) = if (k = 1 ∧ 0 < 100 * ((g - ksh D k a g) * D)) ∨ (¬ k = 1 ∧ 100 * ((g - ksh D k a g) * D) < 0) then g else ksh D k a g := by
  unfold ksh
  by_cases c : (k = 1 ∧ 0 < D) ∨ (¬ k = 1 ∧ D < 0)
  · rw [if_pos c, if_pos c, show g - (g - 1) = 1 by omega, Int.one_mul, if_pos (by omega)]
    omega
  · rw [if_neg c, if_neg c]
    have e : ¬ ((k = 1 ∧ 0 < 100 * ((g - a) * D)) ∨ (¬ k = 1 ∧ 100 * ((g - a) * D) < 0)) := by
      by_cases hk : k = 1
      · have : (g - a) * D ≤ 0 := Int.mul_nonpos_of_nonneg_of_nonpos (by omega) (by omega)
        omega
      · have : 0 ≤ (g - a) * D := Int.mul_nonneg (by omega) (by omega)
        omega
    rw [if_neg e]
theorem ksh_e {s1 c1 s2 c2 a b k : Int} (hab : a ≤ b) : ksh (s1 * c2 - s2 * c1) k a (b + 1) = if k = 1 then (if 0 ≤ kgap s1 c1 s2 c2 a b then a else b) else (if kgap s1 c1 s2 c2 a b ≤ 0 then a else b) := by
  rw [kgap_D]
  generalize s1 * c2 - s2 * c1 = D
  unfold ksh
  by_cases e : a = b
  · subst e
    rw [show a - a = 0 by omega, Int.zero_mul]
    (repeat' split) <;> omega
  · by_cases hk : k = 1
    · rw [if_pos hk]
      by_cases hD : 0 < D
      · have : (a - b) * D < 0 := Int.mul_neg_of_neg_of_pos (by omega) hD
        rw [if_pos (by omega), if_neg (by omega)]
        omega
      · have : 0 ≤ (a - b) * D := Int.mul_nonneg_of_nonpos_of_nonpos (by omega) (by omega)
        rw [if_neg (by omega), if_pos (by omega)]
    · rw [if_neg hk]
      by_cases hD : D < 0
      · have : 0 < (a - b) * D := Int.mul_pos_of_neg_of_neg (by omega) hD
        rw [if_pos (by omega), if_neg (by omega)]
        omega
      · have : (a - b) * D ≤ 0 := Int.mul_nonpos_of_nonpos_of_nonneg (by omega) (by omega)
        rw [if_neg (by omega), if_pos (by omega)]
def kq4 (q : Nat → Int) (u v e f : Int) : Nat → Int := up (up (kq2 q u v) 25 e) 26 f
theorem kq4_2 {q : Nat → Int} {u v e f u' v' : Int} : kq2 (kq4 q u v e f) u' v' = kq4 q u' v' e f := by
  funext j
  unfold kq4 kq2 up
  by_cases e1 : j = 23
  · subst e1; rfl
  · by_cases e2 : j = 24
    · subst e2; rfl
    · simp only [e1, e2, if_false]
theorem kq4_25 {q : Nat → Int} {u v e f z : Int} : up (kq4 q u v e f) 25 z = kq4 q u v z f := by
  funext j
  unfold kq4 up
  by_cases e1 : j = 25
  · subst e1; rfl
  · simp only [e1, if_false]
theorem kq4_26 {q : Nat → Int} {u v e f z : Int} : up (kq4 q u v e f) 26 z = kq4 q u v e z := by
  funext j
  unfold kq4 up
  by_cases e1 : j = 26
  · subst e1; rfl
  · simp only [e1, if_false]
theorem kq4_n {q : Nat → Int} {z : Int} : up q 26 z = kq4 q (q 23) (q 24) (q 25) z := by
  funext j
  unfold kq4 kq2 up
  by_cases e1 : j = 26
  · subst e1; rfl
  · by_cases e2 : j = 25
    · subst e2; rfl
    · by_cases e3 : j = 24
      · subst e3; rfl
      · by_cases e4 : j = 23
        · subst e4; rfl
        · simp only [e1, e2, e3, e4, if_false]
theorem kq4_g {q : Nat → Int} {u v e f : Int} : kq4 q u v e f 23 = u ∧ kq4 q u v e f 24 = v ∧ kq4 q u v e f 25 = e ∧ kq4 q u v e f 26 = f := ⟨rfl, rfl, rfl, rfl⟩
/-- the end of a stretch of shares: found, or none there -/
def kQe (G : kG) (h : Nat → Option kC) (n : Nat) (q : Nat → Int) (F : Nat → Nat → Int) (x y w l v k : Int) : kPo := fun r h' n' => n' = n ∧ ∃ (u1 v1 e1 f1 : Int), h' = kmh G h (kq4 q u1 v1 e1 f1) F ∧
  r = some (.int (jI (if ¬ kg2 (kcf x w l) (kcf y w l) (v / 1000) = 0 ∧ ¬ kg2 (kcf x w l) (kcf y w l) (v % 1000) = 0 then 1 else 0))) ∧
  ((¬ kg2 (kcf x w l) (kcf y w l) (v / 1000) = 0 ∧ ¬ kg2 (kcf x w l) (kcf y w l) (v % 1000) = 0) → e1 = kg2 (ksf x w l) (ksf y w l) (if k = 1 then w_gre x y w l (v / 1000) (v % 1000) else w_les x y w l (v / 1000) (v % 1000)) ∧ f1 = kg2 (kcf x w l) (kcf y w l) (if k = 1 then w_gre x y w l (v / 1000) (v % 1000) else w_les x y w l (v / 1000) (v % 1000)))
theorem ksh_1 {D k a : Int} : ksh D k a (a + 1) = a := by
  unfold ksh
  split <;> omega
theorem ksh_in {D k a g : Int} (h : a < g) : a ≤ ksh D k a g ∧ ksh D k a g < g := by
  unfold ksh
  split <;> omega
set_option maxHeartbeats 4000000 in
set_option maxRecDepth 100000 in
theorem j_end_lp {G : kG} {d : Nat} {h : Nat → Option kC} {n : Nat} {q : Nat → Int} {F : Nat → Nat → Int} {x y w l v k : Int} (x0 : 0 ≤ x ∧ x ≤ 63) (y0 : 0 ≤ y ∧ y ≤ 63) (w0 : 1 ≤ w ∧ w ≤ 8) (l0 : 0 ≤ l ∧ l ≤ 63) (v0 : 0 ≤ v ∧ v / 1000 ≤ v % 1000 ∧ v % 1000 ≤ 100) (k0 : 0 ≤ k ∧ k ≤ 1)  : ∀ (f : Nat) (g u1 v1 t : Int) (e8 e9 : Option Value), v / 1000 < g ∧ g ≤ v % 1000 + 1 → v % 1000 + 1 - g ≤ f → t = (ksh (ksf x w l * kcf y w l - ksf y w l * kcf x w l) k (v / 1000) g) → (∀ s, v / 1000 ≤ s → s < g → 0 < kg2 (kcf x w l) (kcf y w l) s) → kE G mX10_findEnd (d + 4) 0 0 13 [some (.ref (gB G + 97)), some (.int (jI x)), some (.int (jI y)), some (.int (jI w)), some (.int (jI l)), some (.int (jI v)), some (.int (jI k)), some (.int (jI g)), e8, e9] [] (kmh G h (kq4 q u1 v1 (kg2 (ksf x w l) (ksf y w l) t) (kg2 (kcf x w l) (kcf y w l) t)) F) n (kQe G h n q F x y w l v k) := by
  have b1 := kcf_in (m := x) (w := w) (l := l) (by omega) (by omega)
  have b2 := kcf_in (m := y) (w := w) (l := l) (by omega) (by omega)
  have b3 := ksf_in (m := x) (w := w) (l := l) (by omega) (by omega)
  have b4 := ksf_in (m := y) (w := w) (l := l) (by omega) (by omega)
  intro f
  induction f with
  | zero =>
    intro g u1 v1 t e8 e9 g1 g2 g3 g4
    refine e_iload rfl dX10_findEnd_13 ?_
    refine e_iload rfl dX10_findEnd_15 ?_
    refine e_sipush (by decide) dX10_findEnd_17 ?_
    refine e_iremN (by first | assumption | (unfold inI at *; omega)) (by first | assumption | (unfold inI at *; omega)) (by omega) (by omega) dX10_findEnd_20 ?_
    refine e_icmp_gt (tgt := 114) dX10_findEnd_21 (by decide) (by first | assumption | (unfold inI at *; omega)) (by first | assumption | (unfold inI at *; omega)) (fun c21 => ?_) (fun c21 => ?_)
    · refine e_iconst dX10_findEnd_114 ?_
      refine e_ireturn dX10_findEnd_115 rfl (by decide) ?_
      have e9 : t = if k = 1 then w_gre x y w l (v / 1000) (v % 1000) else w_les x y w l (v / 1000) (v % 1000) := by
        rw [g3, show g = v % 1000 + 1 by omega, ksh_e v0.2.1]
        rfl
      have y1 := g4 (v / 1000) (by omega) (by omega)
      have y2 := g4 (v % 1000) (by omega) (by omega)
      exact ⟨rfl, u1, v1, _, _, rfl, by rw [if_pos (by omega)], fun _ => ⟨by rw [e9], by rw [e9]⟩⟩
    · exact absurd c21 (by omega)
  | succ f ih =>
    intro g u1 v1 t e8 e9 g1 g2 g3 g4
    have q9 := ksh_in (D := (ksf x w l * kcf y w l - ksf y w l * kcf x w l)) (k := k) (a := v / 1000) (g := g) (by omega)
    rw [← g3] at q9
    have q0 := g4 t (by omega) (by omega)
    have q1 := kg2_in b1 b2 (show 0 ≤ t by omega) (show t ≤ 100 by omega)
    refine e_iload rfl dX10_findEnd_13 ?_
    refine e_iload rfl dX10_findEnd_15 ?_
    refine e_sipush (by decide) dX10_findEnd_17 ?_
    refine e_iremN (by first | assumption | (unfold inI at *; omega)) (by first | assumption | (unfold inI at *; omega)) (by omega) (by omega) dX10_findEnd_20 ?_
    refine e_icmp_gt (tgt := 114) dX10_findEnd_21 (by decide) (by first | assumption | (unfold inI at *; omega)) (by first | assumption | (unfold inI at *; omega)) (fun c21 => ?_) (fun c21 => ?_)
    · refine e_iconst dX10_findEnd_114 ?_
      refine e_ireturn dX10_findEnd_115 rfl (by decide) ?_
      have e9 : t = if k = 1 then w_gre x y w l (v / 1000) (v % 1000) else w_les x y w l (v / 1000) (v % 1000) := by
        rw [g3, show g = v % 1000 + 1 by omega, ksh_e v0.2.1]
        rfl
      have y1 := g4 (v / 1000) (by omega) (by omega)
      have y2 := g4 (v % 1000) (by omega) (by omega)
      exact ⟨rfl, u1, v1, _, _, rfl, by rw [if_pos (by omega)], fun _ => ⟨by rw [e9], by rw [e9]⟩⟩
    · refine e_aload_n rfl dX10_findEnd_24 ?_
      refine e_iload_n rfl dX10_findEnd_25 ?_
      refine e_iload_n rfl dX10_findEnd_26 ?_
      refine e_iload_n rfl dX10_findEnd_27 ?_
      refine e_iload rfl dX10_findEnd_28 ?_
      refine e_iload rfl dX10_findEnd_30 ?_
      refine eV5 mtX10_findMix miX10_findMix lkX10_241 dX10_findEnd_32 kmh_97 rfl rfl rfl (j_findMix (by omega) (by omega) (by omega) (by omega) (by omega)) ?_
      dsimp only [Option.toList, List.cons_append, List.nil_append]
      rw [kq4_2]
      have q8 := kg2_in b1 b2 (show 0 ≤ g by omega) (show g ≤ 100 by omega)
      have q7 := kg2_in b3 b4 (show 0 ≤ g by omega) (show g ≤ 100 by omega)
      refine e_ifneP (tgt := 40) dX10_findEnd_35 (by decide) (fun c35 => ?_) (fun c35 => ?_)
      · refine e_aload_n rfl dX10_findEnd_40 ?_
        refine e_getf fdX10_227 dX10_findEnd_41 kmh_97 rfl ?_
        rw [kq4_g.1]
        refine e_aload_n rfl dX10_findEnd_44 ?_
        refine e_getf fdX10_251 dX10_findEnd_45 kmh_97 rfl ?_
        rw [kq4_g.2.2.2]
        refine e_lmul dX10_findEnd_48 ?_
        refine e_aload_n rfl dX10_findEnd_49 ?_
        refine e_getf fdX10_254 dX10_findEnd_50 kmh_97 rfl ?_
        rw [kq4_g.2.2.1]
        refine e_aload_n rfl dX10_findEnd_53 ?_
        refine e_getf fdX10_231 dX10_findEnd_54 kmh_97 rfl ?_
        rw [kq4_g.2.1]
        refine e_lmul dX10_findEnd_57 ?_
        refine e_lsub dX10_findEnd_58 ?_
        have q4 := (kgap_in b3 b1 b4 b2 (show 0 ≤ g by omega) (show g ≤ 100 by omega) (show 0 ≤ t by omega) (show t ≤ 100 by omega)).1
        have q3 : kg2 (ksf x w l) (ksf y w l) g * kg2 (kcf x w l) (kcf y w l) t - kg2 (ksf x w l) (ksf y w l) t * kg2 (kcf x w l) (kcf y w l) g = kgap (ksf x w l) (kcf x w l) (ksf y w l) (kcf y w l) g t := rfl
        rw [q3]
        have q2 := kgap_D (ksf x w l) (kcf x w l) (ksf y w l) (kcf y w l) g t
        refine e_lstore dX10_findEnd_59 rfl rfl ?_
        dsimp only [List.set]
        refine e_aload_n rfl dX10_findEnd_61 ?_
        refine e_getf fdX10_251 dX10_findEnd_62 kmh_97 rfl ?_
        rw [kq4_g.2.2.2]
        refine e_lconst (z := 0) (by decide) dX10_findEnd_65 ?_
        refine e_lcmp_eq (tgt := 92) dX10_findEnd_66 dX10_findEnd_67 (by decide) (by first | assumption | (unfold inL at *; omega)) (by first | assumption | (unfold inL at *; omega)) (fun c66 => ?_) (fun c66 => ?_)
        · exact absurd c66 (by omega)
        · refine e_iload rfl dX10_findEnd_70 ?_
          refine e_if_eq (tgt := 85) dX10_findEnd_72 (by decide) (by unfold inI; omega) (fun c72 => ?_) (fun c72 => ?_)
          · refine e_lload rfl dX10_findEnd_85 ?_
            refine e_lconst (z := 0) (by decide) dX10_findEnd_87 ?_
            refine e_lcmp_ge (tgt := 108) dX10_findEnd_88 dX10_findEnd_89 (by decide) (kgap_L q4) (by first | assumption | (unfold inL at *; omega)) (fun c88 => ?_) (fun c88 => ?_)
            · refine e_iinc dX10_findEnd_108 rfl rfl ?_
              dsimp only [List.set]
              refine e_goto (tgt := 13) dX10_findEnd_111 (by decide) ?_
              have q5 : ∀ s, v / 1000 ≤ s → s < g + 1 → 0 < kg2 (kcf x w l) (kcf y w l) s := fun s s1 s2 => by
                by_cases z : s = g
                · rw [z]
                  assumption
                · exact g4 s s1 (by omega)
              have z9 := ksh_s (D := (ksf x w l * kcf y w l - ksf y w l * kcf x w l)) (k := k) (a := v / 1000) (g := g) (by omega)
              rw [← g3, ← q2] at z9
              first
              | (rw [if_pos (by omega)] at z9; exact ih (g + 1) _ _ g _ _ (by omega) (by omega) z9.symm q5)
              | (rw [if_neg (by omega)] at z9; exact ih (g + 1) _ _ t _ _ (by omega) (by omega) z9.symm q5)
            · refine e_aload_n rfl dX10_findEnd_92 ?_
              refine e_aload_n rfl dX10_findEnd_93 ?_
              refine e_getf fdX10_227 dX10_findEnd_94 kmh_97 rfl ?_
              rw [kq4_g.1]
              refine e_mput pfX10_254 dX10_findEnd_97 kml_25 rfl rfl rfl ?_
              rw [kq4_25]
              refine e_aload_n rfl dX10_findEnd_100 ?_
              refine e_aload_n rfl dX10_findEnd_101 ?_
              refine e_getf fdX10_231 dX10_findEnd_102 kmh_97 rfl ?_
              rw [kq4_g.2.1]
              refine e_mput pfX10_251 dX10_findEnd_105 kml_26 rfl rfl rfl ?_
              rw [kq4_26]
              refine e_iinc dX10_findEnd_108 rfl rfl ?_
              dsimp only [List.set]
              refine e_goto (tgt := 13) dX10_findEnd_111 (by decide) ?_
              have q5 : ∀ s, v / 1000 ≤ s → s < g + 1 → 0 < kg2 (kcf x w l) (kcf y w l) s := fun s s1 s2 => by
                by_cases z : s = g
                · rw [z]
                  assumption
                · exact g4 s s1 (by omega)
              have z9 := ksh_s (D := (ksf x w l * kcf y w l - ksf y w l * kcf x w l)) (k := k) (a := v / 1000) (g := g) (by omega)
              rw [← g3, ← q2] at z9
              first
              | (rw [if_pos (by omega)] at z9; exact ih (g + 1) _ _ g _ _ (by omega) (by omega) z9.symm q5)
              | (rw [if_neg (by omega)] at z9; exact ih (g + 1) _ _ t _ _ (by omega) (by omega) z9.symm q5)
          · refine e_lload rfl dX10_findEnd_75 ?_
            refine e_lconst (z := 0) (by decide) dX10_findEnd_77 ?_
            refine e_lcmp_le (tgt := 108) dX10_findEnd_78 dX10_findEnd_79 (by decide) (kgap_L q4) (by first | assumption | (unfold inL at *; omega)) (fun c78 => ?_) (fun c78 => ?_)
            · refine e_iinc dX10_findEnd_108 rfl rfl ?_
              dsimp only [List.set]
              refine e_goto (tgt := 13) dX10_findEnd_111 (by decide) ?_
              have q5 : ∀ s, v / 1000 ≤ s → s < g + 1 → 0 < kg2 (kcf x w l) (kcf y w l) s := fun s s1 s2 => by
                by_cases z : s = g
                · rw [z]
                  assumption
                · exact g4 s s1 (by omega)
              have z9 := ksh_s (D := (ksf x w l * kcf y w l - ksf y w l * kcf x w l)) (k := k) (a := v / 1000) (g := g) (by omega)
              rw [← g3, ← q2] at z9
              first
              | (rw [if_pos (by omega)] at z9; exact ih (g + 1) _ _ g _ _ (by omega) (by omega) z9.symm q5)
              | (rw [if_neg (by omega)] at z9; exact ih (g + 1) _ _ t _ _ (by omega) (by omega) z9.symm q5)
            · refine e_goto (tgt := 92) dX10_findEnd_82 (by decide) ?_
              refine e_aload_n rfl dX10_findEnd_92 ?_
              refine e_aload_n rfl dX10_findEnd_93 ?_
              refine e_getf fdX10_227 dX10_findEnd_94 kmh_97 rfl ?_
              rw [kq4_g.1]
              refine e_mput pfX10_254 dX10_findEnd_97 kml_25 rfl rfl rfl ?_
              rw [kq4_25]
              refine e_aload_n rfl dX10_findEnd_100 ?_
              refine e_aload_n rfl dX10_findEnd_101 ?_
              refine e_getf fdX10_231 dX10_findEnd_102 kmh_97 rfl ?_
              rw [kq4_g.2.1]
              refine e_mput pfX10_251 dX10_findEnd_105 kml_26 rfl rfl rfl ?_
              rw [kq4_26]
              refine e_iinc dX10_findEnd_108 rfl rfl ?_
              dsimp only [List.set]
              refine e_goto (tgt := 13) dX10_findEnd_111 (by decide) ?_
              have q5 : ∀ s, v / 1000 ≤ s → s < g + 1 → 0 < kg2 (kcf x w l) (kcf y w l) s := fun s s1 s2 => by
                by_cases z : s = g
                · rw [z]
                  assumption
                · exact g4 s s1 (by omega)
              have z9 := ksh_s (D := (ksf x w l * kcf y w l - ksf y w l * kcf x w l)) (k := k) (a := v / 1000) (g := g) (by omega)
              rw [← g3, ← q2] at z9
              first
              | (rw [if_pos (by omega)] at z9; exact ih (g + 1) _ _ g _ _ (by omega) (by omega) z9.symm q5)
              | (rw [if_neg (by omega)] at z9; exact ih (g + 1) _ _ t _ _ (by omega) (by omega) z9.symm q5)
      · refine e_iconst dX10_findEnd_38 ?_
        refine e_ireturn dX10_findEnd_39 rfl (by decide) ?_
        have y9 := kC0 b1.1 b2.1 (show 0 ≤ v / 1000 by omega) (show v / 1000 ≤ g by omega) (show g ≤ v % 1000 by omega) (by omega) (show kg2 (kcf x w l) (kcf y w l) g = 0 by omega)
        exact ⟨rfl, _, _, _, _, rfl, by rw [if_neg (by omega)], fun hk => absurd hk (by omega)⟩
set_option maxHeartbeats 4000000 in
set_option maxRecDepth 100000 in
theorem j_findEnd {G : kG} {d : Nat} {h : Nat → Option kC} {n : Nat} {q : Nat → Int} {F : Nat → Nat → Int} {x y w l v k : Int} (x0 : 0 ≤ x ∧ x ≤ 63) (y0 : 0 ≤ y ∧ y ≤ 63) (w0 : 1 ≤ w ∧ w ≤ 8) (l0 : 0 ≤ l ∧ l ≤ 63) (v0 : 0 ≤ v ∧ v / 1000 ≤ v % 1000 ∧ v % 1000 ≤ 100) (k0 : 0 ≤ k ∧ k ≤ 1)  : kCall G mX10_findEnd (d + 4) 0 0 [.ref (gB G + 97), .int (jI x), .int (jI y), .int (jI w), .int (jI l), .int (jI v), .int (jI k)] (kmh G h q F) n (kQe G h n q F x y w l v k) := by
  show kE G mX10_findEnd (d + 4) 0 0 0 [some (.ref (gB G + 97)), some (.int (jI x)), some (.int (jI y)), some (.int (jI w)), some (.int (jI l)), some (.int (jI v)), some (.int (jI k)), none, none, none] [] (kmh G h q F) n _
  have b1 := kcf_in (m := x) (w := w) (l := l) (by omega) (by omega)
  have b2 := kcf_in (m := y) (w := w) (l := l) (by omega) (by omega)
  have b3 := ksf_in (m := x) (w := w) (l := l) (by omega) (by omega)
  have b4 := ksf_in (m := y) (w := w) (l := l) (by omega) (by omega)
  obtain ⟨g, hg⟩ : ∃ g, g = v / 1000 := ⟨_, rfl⟩
  refine e_aload_n rfl dX10_findEnd_0 ?_
  refine e_lconst (z := 0) (by decide) dX10_findEnd_1 ?_
  refine e_mput pfX10_251 dX10_findEnd_2 kml_26 rfl rfl rfl ?_
  rw [kq4_n]
  refine e_iload rfl dX10_findEnd_5 ?_
  refine e_sipush (by decide) dX10_findEnd_7 ?_
  refine e_idivN (by first | assumption | (unfold inI at *; omega)) (by first | assumption | (unfold inI at *; omega)) (by omega) (by omega) dX10_findEnd_10 ?_
  rw [← hg]
  refine e_istore dX10_findEnd_11 rfl rfl ?_
  dsimp only [List.set]
  refine e_iload rfl dX10_findEnd_13 ?_
  refine e_iload rfl dX10_findEnd_15 ?_
  refine e_sipush (by decide) dX10_findEnd_17 ?_
  refine e_iremN (by first | assumption | (unfold inI at *; omega)) (by first | assumption | (unfold inI at *; omega)) (by omega) (by omega) dX10_findEnd_20 ?_
  refine e_icmp_gt (tgt := 114) dX10_findEnd_21 (by decide) (by first | assumption | (unfold inI at *; omega)) (by first | assumption | (unfold inI at *; omega)) (fun c21 => ?_) (fun c21 => ?_)
  · exact absurd c21 (by omega)
  · refine e_aload_n rfl dX10_findEnd_24 ?_
    refine e_iload_n rfl dX10_findEnd_25 ?_
    refine e_iload_n rfl dX10_findEnd_26 ?_
    refine e_iload_n rfl dX10_findEnd_27 ?_
    refine e_iload rfl dX10_findEnd_28 ?_
    refine e_iload rfl dX10_findEnd_30 ?_
    refine eV5 mtX10_findMix miX10_findMix lkX10_241 dX10_findEnd_32 kmh_97 rfl rfl rfl (j_findMix (by omega) (by omega) (by omega) (by omega) (by omega)) ?_
    dsimp only [Option.toList, List.cons_append, List.nil_append]
    rw [kq4_2]
    have q8 := kg2_in b1 b2 (show 0 ≤ g by omega) (show g ≤ 100 by omega)
    have q7 := kg2_in b3 b4 (show 0 ≤ g by omega) (show g ≤ 100 by omega)
    refine e_ifneP (tgt := 40) dX10_findEnd_35 (by decide) (fun c35 => ?_) (fun c35 => ?_)
    · refine e_aload_n rfl dX10_findEnd_40 ?_
      refine e_getf fdX10_227 dX10_findEnd_41 kmh_97 rfl ?_
      rw [kq4_g.1]
      refine e_aload_n rfl dX10_findEnd_44 ?_
      refine e_getf fdX10_251 dX10_findEnd_45 kmh_97 rfl ?_
      rw [kq4_g.2.2.2]
      refine e_lmul dX10_findEnd_48 ?_
      refine e_aload_n rfl dX10_findEnd_49 ?_
      refine e_getf fdX10_254 dX10_findEnd_50 kmh_97 rfl ?_
      rw [kq4_g.2.2.1]
      refine e_aload_n rfl dX10_findEnd_53 ?_
      refine e_getf fdX10_231 dX10_findEnd_54 kmh_97 rfl ?_
      rw [kq4_g.2.1]
      refine e_lmul dX10_findEnd_57 ?_
      refine e_lsub dX10_findEnd_58 ?_
      refine e_lstore dX10_findEnd_59 rfl rfl ?_
      dsimp only [List.set]
      refine e_aload_n rfl dX10_findEnd_61 ?_
      refine e_getf fdX10_251 dX10_findEnd_62 kmh_97 rfl ?_
      rw [kq4_g.2.2.2]
      refine e_lconst (z := 0) (by decide) dX10_findEnd_65 ?_
      refine e_lcmp_eq (tgt := 92) dX10_findEnd_66 dX10_findEnd_67 (by decide) (by first | assumption | (unfold inL at *; omega)) (by first | assumption | (unfold inL at *; omega)) (fun c66 => ?_) (fun c66 => ?_)
      · refine e_aload_n rfl dX10_findEnd_92 ?_
        refine e_aload_n rfl dX10_findEnd_93 ?_
        refine e_getf fdX10_227 dX10_findEnd_94 kmh_97 rfl ?_
        rw [kq4_g.1]
        refine e_mput pfX10_254 dX10_findEnd_97 kml_25 rfl rfl rfl ?_
        rw [kq4_25]
        refine e_aload_n rfl dX10_findEnd_100 ?_
        refine e_aload_n rfl dX10_findEnd_101 ?_
        refine e_getf fdX10_231 dX10_findEnd_102 kmh_97 rfl ?_
        rw [kq4_g.2.1]
        refine e_mput pfX10_251 dX10_findEnd_105 kml_26 rfl rfl rfl ?_
        rw [kq4_26]
        refine e_iinc dX10_findEnd_108 rfl rfl ?_
        dsimp only [List.set]
        refine e_goto (tgt := 13) dX10_findEnd_111 (by decide) ?_
        subst hg
        exact j_end_lp x0 y0 w0 l0 v0 k0 200 (v / 1000 + 1) _ _ (v / 1000) _ _ (by omega) (by omega) ksh_1.symm (fun s s1 s2 => by rw [show s = v / 1000 by omega]; assumption)
      · exact absurd c66 (by omega)
    · refine e_iconst dX10_findEnd_38 ?_
      refine e_ireturn dX10_findEnd_39 rfl (by decide) ?_
      have y9 := kC0 b1.1 b2.1 (show 0 ≤ v / 1000 by omega) (show v / 1000 ≤ g by omega) (show g ≤ v % 1000 by omega) (by omega) (show kg2 (kcf x w l) (kcf y w l) g = 0 by omega)
      exact ⟨rfl, _, _, _, _, rfl, by rw [if_neg (by omega)], fun hk => absurd hk (by omega)⟩
set_option maxHeartbeats 4000000 in
set_option maxRecDepth 100000 in
theorem j_alone0 {G : kG} {d : Nat} {h : Nat → Option kC} {n : Nat} {q : Nat → Int} {F : Nat → Nat → Int} {Z : kCs} (md : rMD q F Z) (ok : kCok Z)  {x : Int} (hx : inI x) {y : Int} (hy : inI y) {w : Int} (hw : inI w) {l : Int} (hl : inI l) {v : Int} (hv : inI v) {u : Int} (hu : inI u) {e : Int} (he : inI e) {p : Int} (hp : inI p) (ce : e = 0) : kCall G mX10_alone (d + 5) 0 0 [.ref (gB G + 97), .int (jI x), .int (jI y), .int (jI w), .int (jI l), .int (jI v), .int (jI u), .int (jI e), .int (jI p)] (kmh G h q F) n (kQm G h n (.long (jL (a_alone Z x y w l v u e p))) (Z)) := by
  show kE G mX10_alone (d + 5) 0 0 0 [some (.ref (gB G + 97)), some (.int (jI x)), some (.int (jI y)), some (.int (jI w)), some (.int (jI l)), some (.int (jI v)), some (.int (jI u)), some (.int (jI e)), some (.int (jI p)), none, none, none, none, none] [] (kmh G h q F) n _
  refine e_iload_n rfl dX10_alone_0 ?_
  refine e_iload_n rfl dX10_alone_1 ?_
  refine e_iload_n rfl dX10_alone_2 ?_
  refine e_iload rfl dX10_alone_3 ?_
  refine eS4 mtX10_areHumps msX10_areHumps lkX10_234 dX10_alone_5 rfl rfl (j_areHumps (by first | assumption | (unfold inI at *; omega)) (by first | assumption | (unfold inI at *; omega)) (by first | assumption | (unfold inI at *; omega)) (by first | assumption | (unfold inI at *; omega))) ?_
  dsimp only [Option.toList, List.cons_append, List.nil_append]
  refine e_ifeqP (tgt := 43) dX10_alone_8 (by decide) (fun c8 => ?_) (fun c8 => ?_)
  · refine e_ldc2 (z := (-1000000000000000002)) kcX10_159 (by decide) dX10_alone_43 ?_
    refine e_lreturn dX10_alone_46 rfl ?_
    exact kQm_0 (by unfold a_alone; rw [if_pos (by omega)]) md
  · refine e_iload rfl dX10_alone_11 ?_
    refine eS1 mtX10_areShares msX10_areShares lkX10_257 dX10_alone_13 rfl rfl (j_areShares (by first | assumption | (unfold inI at *; omega))) ?_
    dsimp only [Option.toList, List.cons_append, List.nil_append]
    refine e_ifeqP (tgt := 43) dX10_alone_16 (by decide) (fun c16 => ?_) (fun c16 => ?_)
    · refine e_ldc2 (z := (-1000000000000000002)) kcX10_159 (by decide) dX10_alone_43 ?_
      refine e_lreturn dX10_alone_46 rfl ?_
      exact kQm_0 (by unfold a_alone; rw [if_pos (by omega)]) md
    · refine e_iload rfl dX10_alone_19 ?_
      refine eS1 mtX10_areShares msX10_areShares lkX10_257 dX10_alone_21 rfl rfl (j_areShares (by first | assumption | (unfold inI at *; omega))) ?_
      dsimp only [Option.toList, List.cons_append, List.nil_append]
      refine e_ifeqP (tgt := 43) dX10_alone_24 (by decide) (fun c24 => ?_) (fun c24 => ?_)
      · refine e_ldc2 (z := (-1000000000000000002)) kcX10_159 (by decide) dX10_alone_43 ?_
        refine e_lreturn dX10_alone_46 rfl ?_
        exact kQm_0 (by unfold a_alone; rw [if_pos (by omega)]) md
      · refine e_iload rfl dX10_alone_27 ?_
        refine eS1 mtX10_isEnd msX10_isEnd lkX10_124 dX10_alone_29 rfl rfl (j_isEnd (by first | assumption | (unfold inI at *; omega))) ?_
        dsimp only [Option.toList, List.cons_append, List.nil_append]
        refine e_ifeqP (tgt := 43) dX10_alone_32 (by decide) (fun c32 => ?_) (fun c32 => ?_)
        · refine e_ldc2 (z := (-1000000000000000002)) kcX10_159 (by decide) dX10_alone_43 ?_
          refine e_lreturn dX10_alone_46 rfl ?_
          exact kQm_0 (by unfold a_alone; rw [if_pos (by omega)]) md
        · refine e_iload rfl dX10_alone_35 ?_
          refine eS1 mtX10_isEnd msX10_isEnd lkX10_124 dX10_alone_37 rfl rfl (j_isEnd (by first | assumption | (unfold inI at *; omega))) ?_
          dsimp only [Option.toList, List.cons_append, List.nil_append]
          refine e_ifneP (tgt := 47) dX10_alone_40 (by decide) (fun c40 => ?_) (fun c40 => ?_)
          · refine e_aload_n rfl dX10_alone_47 ?_
            refine e_iload_n rfl dX10_alone_48 ?_
            refine e_iload_n rfl dX10_alone_49 ?_
            refine e_iload_n rfl dX10_alone_50 ?_
            refine e_iload rfl dX10_alone_51 ?_
            refine e_iload rfl dX10_alone_53 ?_
            refine e_iload rfl dX10_alone_55 ?_
            refine e_iconst dX10_alone_57 ?_
            refine e_icmp_ne (tgt := 65) dX10_alone_58 (by decide) (by first | assumption | (unfold inI at *; omega)) (by first | assumption | (unfold inI at *; omega)) (fun c58 => ?_) (fun c58 => ?_)
            · refine e_iconst dX10_alone_65 ?_
              refine eV6R mtX10_findEnd miX10_findEnd lkX10_260 dX10_alone_66 kmh_97 rfl rfl rfl (j_findEnd (by omega) (by omega) (by omega) (by omega) (by omega) (by omega)) (fun r66 h66 n66 hp66 => ?_)
              obtain ⟨hn66, u66, v66, eA, fA, hh66, hr66, hkA⟩ := hp66
              subst hn66
              subst hh66
              subst hr66
              dsimp only [Option.toList, List.cons_append, List.nil_append]
              refine e_istore dX10_alone_69 rfl rfl ?_
              dsimp only [List.set]
              refine e_aload_n rfl dX10_alone_71 ?_
              refine e_getf fdX10_254 dX10_alone_72 kmh_97 rfl ?_
              rw [kq4_g.2.2.1]
              refine e_lstore dX10_alone_75 rfl rfl ?_
              dsimp only [List.set]
              refine e_aload_n rfl dX10_alone_77 ?_
              refine e_getf fdX10_251 dX10_alone_78 kmh_97 rfl ?_
              rw [kq4_g.2.2.2]
              refine e_lstore dX10_alone_81 rfl rfl ?_
              dsimp only [List.set]
              refine e_iload rfl dX10_alone_83 ?_
              refine e_ifeqP (tgt := 132) dX10_alone_85 (by decide) (fun c85 => ?_) (fun c85 => ?_)
              · refine e_ldc2 (z := (-1000000000000000005)) kcX10_245 (by decide) dX10_alone_132 ?_
                refine e_lreturn dX10_alone_135 rfl ?_
                first
                | exact ⟨by unfold a_alone; rw [if_neg (by omega), if_pos (by omega)], rfl, _, _, rfl, rMD_q md rfl rfl rfl rfl⟩
                | (refine ⟨?_, rfl, _, _, rfl, rMD_q md rfl rfl rfl rfl⟩; unfold a_alone; rw [if_neg (by omega), if_neg (by omega)]; first | (rw [if_pos (by omega)] at hA4 hB4; rw [if_pos (by omega), ← hA4, ← hB4]; unfold w_fall; rw [if_neg (by omega)]; rfl) | (rw [if_neg (by omega)] at hA4 hB4; rw [if_neg (by omega), ← hA4, ← hB4]; unfold w_fall; rw [if_neg (by omega)]; rfl))
              · refine e_aload_n rfl dX10_alone_88 ?_
                refine e_iload_n rfl dX10_alone_89 ?_
                refine e_iload_n rfl dX10_alone_90 ?_
                refine e_iload_n rfl dX10_alone_91 ?_
                refine e_iload rfl dX10_alone_92 ?_
                refine e_iload rfl dX10_alone_94 ?_
                refine e_iload rfl dX10_alone_96 ?_
                refine e_if_ne (tgt := 105) dX10_alone_98 (by decide) (by first | assumption | (unfold inI at *; omega)) (fun c98 => ?_) (fun c98 => ?_)
                · exact absurd c98 (by omega)
                · refine e_iconst dX10_alone_101 ?_
                  refine e_goto (tgt := 106) dX10_alone_102 (by decide) ?_
                  refine eV6R mtX10_findEnd miX10_findEnd lkX10_260 dX10_alone_106 kmh_97 rfl rfl rfl (j_findEnd (by omega) (by omega) (by omega) (by omega) (by omega) (by omega)) (fun r106 h106 n106 hp106 => ?_)
                  obtain ⟨hn106, u106, v106, eB, fB, hh106, hr106, hkB⟩ := hp106
                  subst hn106
                  subst hh106
                  subst hr106
                  dsimp only [Option.toList, List.cons_append, List.nil_append]
                  refine e_ifeqP (tgt := 132) dX10_alone_109 (by decide) (fun c109 => ?_) (fun c109 => ?_)
                  · refine e_ldc2 (z := (-1000000000000000005)) kcX10_245 (by decide) dX10_alone_132 ?_
                    refine e_lreturn dX10_alone_135 rfl ?_
                    first
                    | exact ⟨by unfold a_alone; rw [if_neg (by omega), if_pos (by omega)], rfl, _, _, rfl, rMD_q md rfl rfl rfl rfl⟩
                    | (refine ⟨?_, rfl, _, _, rfl, rMD_q md rfl rfl rfl rfl⟩; unfold a_alone; rw [if_neg (by omega), if_neg (by omega)]; first | (rw [if_pos (by omega)] at hA4 hB4; rw [if_pos (by omega), ← hA4, ← hB4]; unfold w_fall; rw [if_neg (by omega)]; rfl) | (rw [if_neg (by omega)] at hA4 hB4; rw [if_neg (by omega), ← hA4, ← hB4]; unfold w_fall; rw [if_neg (by omega)]; rfl))
                  · obtain ⟨aA, dA⟩ := hkA (by assumption)
                    obtain ⟨aB, dB⟩ := hkB (by assumption)
                    first | rw [if_pos rfl] at aA dA | rw [if_neg (by decide)] at aA dA
                    first | rw [if_pos rfl] at aB dB | rw [if_neg (by decide)] at aB dB
                    have b1 := kcf_in (m := x) (w := w) (l := l) (by omega) (by omega)
                    have b2 := kcf_in (m := y) (w := w) (l := l) (by omega) (by omega)
                    have b3 := ksf_in (m := x) (w := w) (l := l) (by omega) (by omega)
                    have b4 := ksf_in (m := y) (w := w) (l := l) (by omega) (by omega)
                    obtain ⟨tA, htA⟩ : ∃ t, eA = kg2 (ksf x w l) (ksf y w l) t ∧ fA = kg2 (kcf x w l) (kcf y w l) t ∧ (t = v / 1000 ∨ t = v % 1000) ∧ t = (if e = 0 then w_les x y w l (v / 1000) (v % 1000) else w_gre x y w l (v / 1000) (v % 1000)) := ⟨_, aA, dA, w_ch (by first | exact Or.inl rfl | exact Or.inr rfl), by first | rw [if_pos (by omega)] | rw [if_neg (by omega)]⟩
                    obtain ⟨tB, htB⟩ : ∃ t, eB = kg2 (ksf x w l) (ksf y w l) t ∧ fB = kg2 (kcf x w l) (kcf y w l) t ∧ (t = u / 1000 ∨ t = u % 1000) ∧ t = (if e = 0 then w_gre x y w l (u / 1000) (u % 1000) else w_les x y w l (u / 1000) (u % 1000)) := ⟨_, aB, dB, w_ch (by first | exact Or.inl rfl | exact Or.inr rfl), by first | rw [if_pos (by omega)] | rw [if_neg (by omega)]⟩
                    obtain ⟨hA1, hA2, hA3, hA4⟩ := htA
                    obtain ⟨hB1, hB2, hB3, hB4⟩ := htB
                    have m1 := kg2_in b1 b2 (show 0 ≤ tA by omega) (show tA ≤ 100 by omega)
                    have m2 := kg2_in b3 b4 (show 0 ≤ tA by omega) (show tA ≤ 100 by omega)
                    have m3 := kg2_in b1 b2 (show 0 ≤ tB by omega) (show tB ≤ 100 by omega)
                    have m4 := kg2_in b3 b4 (show 0 ≤ tB by omega) (show tB ≤ 100 by omega)
                    have m5 : ¬ kg2 (kcf x w l) (kcf y w l) tA = 0 := by rcases hA3 with z | z <;> rw [z] <;> omega
                    have m6 : ¬ kg2 (kcf x w l) (kcf y w l) tB = 0 := by rcases hB3 with z | z <;> rw [z] <;> omega
                    rw [hA1, hA2]
                    refine e_lload rfl dX10_alone_112 ?_
                    refine e_lload rfl dX10_alone_114 ?_
                    refine e_aload_n rfl dX10_alone_116 ?_
                    refine e_getf fdX10_254 dX10_alone_117 kmh_97 rfl ?_
                    rw [kq4_g.2.2.1, hB1]
                    refine e_aload_n rfl dX10_alone_120 ?_
                    refine e_getf fdX10_251 dX10_alone_121 kmh_97 rfl ?_
                    rw [kq4_g.2.2.2, hB2]
                    refine e_iload rfl dX10_alone_124 ?_
                    refine eS5 mtX10_less msX10_less lkX10_247 dX10_alone_126 rfl rfl (j_less (by omega) (by omega) (by omega) (by omega) (by omega)) ?_
                    dsimp only [Option.toList, List.cons_append, List.nil_append]
                    refine e_goto (tgt := 135) dX10_alone_129 (by decide) ?_
                    refine e_lreturn dX10_alone_135 rfl ?_
                    first
                    | exact ⟨by unfold a_alone; rw [if_neg (by omega), if_pos (by omega)], rfl, _, _, rfl, rMD_q md rfl rfl rfl rfl⟩
                    | (refine ⟨?_, rfl, _, _, rfl, rMD_q md rfl rfl rfl rfl⟩; unfold a_alone; rw [if_neg (by omega), if_neg (by omega)]; first | (rw [if_pos (by omega)] at hA4 hB4; rw [if_pos (by omega), ← hA4, ← hB4]; unfold w_fall; rw [if_neg (by omega)]; rfl) | (rw [if_neg (by omega)] at hA4 hB4; rw [if_neg (by omega), ← hA4, ← hB4]; unfold w_fall; rw [if_neg (by omega)]; rfl))
            · exact absurd c58 (by omega)
          · refine e_ldc2 (z := (-1000000000000000002)) kcX10_159 (by decide) dX10_alone_43 ?_
            refine e_lreturn dX10_alone_46 rfl ?_
            exact kQm_0 (by unfold a_alone; rw [if_pos (by omega)]) md
set_option maxHeartbeats 4000000 in
set_option maxRecDepth 100000 in
theorem j_alone1 {G : kG} {d : Nat} {h : Nat → Option kC} {n : Nat} {q : Nat → Int} {F : Nat → Nat → Int} {Z : kCs} (md : rMD q F Z) (ok : kCok Z)  {x : Int} (hx : inI x) {y : Int} (hy : inI y) {w : Int} (hw : inI w) {l : Int} (hl : inI l) {v : Int} (hv : inI v) {u : Int} (hu : inI u) {e : Int} (he : inI e) {p : Int} (hp : inI p) (ce : e = 1) : kCall G mX10_alone (d + 5) 0 0 [.ref (gB G + 97), .int (jI x), .int (jI y), .int (jI w), .int (jI l), .int (jI v), .int (jI u), .int (jI e), .int (jI p)] (kmh G h q F) n (kQm G h n (.long (jL (a_alone Z x y w l v u e p))) (Z)) := by
  show kE G mX10_alone (d + 5) 0 0 0 [some (.ref (gB G + 97)), some (.int (jI x)), some (.int (jI y)), some (.int (jI w)), some (.int (jI l)), some (.int (jI v)), some (.int (jI u)), some (.int (jI e)), some (.int (jI p)), none, none, none, none, none] [] (kmh G h q F) n _
  refine e_iload_n rfl dX10_alone_0 ?_
  refine e_iload_n rfl dX10_alone_1 ?_
  refine e_iload_n rfl dX10_alone_2 ?_
  refine e_iload rfl dX10_alone_3 ?_
  refine eS4 mtX10_areHumps msX10_areHumps lkX10_234 dX10_alone_5 rfl rfl (j_areHumps (by first | assumption | (unfold inI at *; omega)) (by first | assumption | (unfold inI at *; omega)) (by first | assumption | (unfold inI at *; omega)) (by first | assumption | (unfold inI at *; omega))) ?_
  dsimp only [Option.toList, List.cons_append, List.nil_append]
  refine e_ifeqP (tgt := 43) dX10_alone_8 (by decide) (fun c8 => ?_) (fun c8 => ?_)
  · refine e_ldc2 (z := (-1000000000000000002)) kcX10_159 (by decide) dX10_alone_43 ?_
    refine e_lreturn dX10_alone_46 rfl ?_
    exact kQm_0 (by unfold a_alone; rw [if_pos (by omega)]) md
  · refine e_iload rfl dX10_alone_11 ?_
    refine eS1 mtX10_areShares msX10_areShares lkX10_257 dX10_alone_13 rfl rfl (j_areShares (by first | assumption | (unfold inI at *; omega))) ?_
    dsimp only [Option.toList, List.cons_append, List.nil_append]
    refine e_ifeqP (tgt := 43) dX10_alone_16 (by decide) (fun c16 => ?_) (fun c16 => ?_)
    · refine e_ldc2 (z := (-1000000000000000002)) kcX10_159 (by decide) dX10_alone_43 ?_
      refine e_lreturn dX10_alone_46 rfl ?_
      exact kQm_0 (by unfold a_alone; rw [if_pos (by omega)]) md
    · refine e_iload rfl dX10_alone_19 ?_
      refine eS1 mtX10_areShares msX10_areShares lkX10_257 dX10_alone_21 rfl rfl (j_areShares (by first | assumption | (unfold inI at *; omega))) ?_
      dsimp only [Option.toList, List.cons_append, List.nil_append]
      refine e_ifeqP (tgt := 43) dX10_alone_24 (by decide) (fun c24 => ?_) (fun c24 => ?_)
      · refine e_ldc2 (z := (-1000000000000000002)) kcX10_159 (by decide) dX10_alone_43 ?_
        refine e_lreturn dX10_alone_46 rfl ?_
        exact kQm_0 (by unfold a_alone; rw [if_pos (by omega)]) md
      · refine e_iload rfl dX10_alone_27 ?_
        refine eS1 mtX10_isEnd msX10_isEnd lkX10_124 dX10_alone_29 rfl rfl (j_isEnd (by first | assumption | (unfold inI at *; omega))) ?_
        dsimp only [Option.toList, List.cons_append, List.nil_append]
        refine e_ifeqP (tgt := 43) dX10_alone_32 (by decide) (fun c32 => ?_) (fun c32 => ?_)
        · refine e_ldc2 (z := (-1000000000000000002)) kcX10_159 (by decide) dX10_alone_43 ?_
          refine e_lreturn dX10_alone_46 rfl ?_
          exact kQm_0 (by unfold a_alone; rw [if_pos (by omega)]) md
        · refine e_iload rfl dX10_alone_35 ?_
          refine eS1 mtX10_isEnd msX10_isEnd lkX10_124 dX10_alone_37 rfl rfl (j_isEnd (by first | assumption | (unfold inI at *; omega))) ?_
          dsimp only [Option.toList, List.cons_append, List.nil_append]
          refine e_ifneP (tgt := 47) dX10_alone_40 (by decide) (fun c40 => ?_) (fun c40 => ?_)
          · refine e_aload_n rfl dX10_alone_47 ?_
            refine e_iload_n rfl dX10_alone_48 ?_
            refine e_iload_n rfl dX10_alone_49 ?_
            refine e_iload_n rfl dX10_alone_50 ?_
            refine e_iload rfl dX10_alone_51 ?_
            refine e_iload rfl dX10_alone_53 ?_
            refine e_iload rfl dX10_alone_55 ?_
            refine e_iconst dX10_alone_57 ?_
            refine e_icmp_ne (tgt := 65) dX10_alone_58 (by decide) (by first | assumption | (unfold inI at *; omega)) (by first | assumption | (unfold inI at *; omega)) (fun c58 => ?_) (fun c58 => ?_)
            · exact absurd c58 (by omega)
            · refine e_iconst dX10_alone_61 ?_
              refine e_goto (tgt := 66) dX10_alone_62 (by decide) ?_
              refine eV6R mtX10_findEnd miX10_findEnd lkX10_260 dX10_alone_66 kmh_97 rfl rfl rfl (j_findEnd (by omega) (by omega) (by omega) (by omega) (by omega) (by omega)) (fun r66 h66 n66 hp66 => ?_)
              obtain ⟨hn66, u66, v66, eA, fA, hh66, hr66, hkA⟩ := hp66
              subst hn66
              subst hh66
              subst hr66
              dsimp only [Option.toList, List.cons_append, List.nil_append]
              refine e_istore dX10_alone_69 rfl rfl ?_
              dsimp only [List.set]
              refine e_aload_n rfl dX10_alone_71 ?_
              refine e_getf fdX10_254 dX10_alone_72 kmh_97 rfl ?_
              rw [kq4_g.2.2.1]
              refine e_lstore dX10_alone_75 rfl rfl ?_
              dsimp only [List.set]
              refine e_aload_n rfl dX10_alone_77 ?_
              refine e_getf fdX10_251 dX10_alone_78 kmh_97 rfl ?_
              rw [kq4_g.2.2.2]
              refine e_lstore dX10_alone_81 rfl rfl ?_
              dsimp only [List.set]
              refine e_iload rfl dX10_alone_83 ?_
              refine e_ifeqP (tgt := 132) dX10_alone_85 (by decide) (fun c85 => ?_) (fun c85 => ?_)
              · refine e_ldc2 (z := (-1000000000000000005)) kcX10_245 (by decide) dX10_alone_132 ?_
                refine e_lreturn dX10_alone_135 rfl ?_
                first
                | exact ⟨by unfold a_alone; rw [if_neg (by omega), if_pos (by omega)], rfl, _, _, rfl, rMD_q md rfl rfl rfl rfl⟩
                | (refine ⟨?_, rfl, _, _, rfl, rMD_q md rfl rfl rfl rfl⟩; unfold a_alone; rw [if_neg (by omega), if_neg (by omega)]; first | (rw [if_pos (by omega)] at hA4 hB4; rw [if_pos (by omega), ← hA4, ← hB4]; unfold w_fall; rw [if_neg (by omega)]; rfl) | (rw [if_neg (by omega)] at hA4 hB4; rw [if_neg (by omega), ← hA4, ← hB4]; unfold w_fall; rw [if_neg (by omega)]; rfl))
              · refine e_aload_n rfl dX10_alone_88 ?_
                refine e_iload_n rfl dX10_alone_89 ?_
                refine e_iload_n rfl dX10_alone_90 ?_
                refine e_iload_n rfl dX10_alone_91 ?_
                refine e_iload rfl dX10_alone_92 ?_
                refine e_iload rfl dX10_alone_94 ?_
                refine e_iload rfl dX10_alone_96 ?_
                refine e_if_ne (tgt := 105) dX10_alone_98 (by decide) (by first | assumption | (unfold inI at *; omega)) (fun c98 => ?_) (fun c98 => ?_)
                · refine e_iconst dX10_alone_105 ?_
                  refine eV6R mtX10_findEnd miX10_findEnd lkX10_260 dX10_alone_106 kmh_97 rfl rfl rfl (j_findEnd (by omega) (by omega) (by omega) (by omega) (by omega) (by omega)) (fun r106 h106 n106 hp106 => ?_)
                  obtain ⟨hn106, u106, v106, eB, fB, hh106, hr106, hkB⟩ := hp106
                  subst hn106
                  subst hh106
                  subst hr106
                  dsimp only [Option.toList, List.cons_append, List.nil_append]
                  refine e_ifeqP (tgt := 132) dX10_alone_109 (by decide) (fun c109 => ?_) (fun c109 => ?_)
                  · refine e_ldc2 (z := (-1000000000000000005)) kcX10_245 (by decide) dX10_alone_132 ?_
                    refine e_lreturn dX10_alone_135 rfl ?_
                    first
                    | exact ⟨by unfold a_alone; rw [if_neg (by omega), if_pos (by omega)], rfl, _, _, rfl, rMD_q md rfl rfl rfl rfl⟩
                    | (refine ⟨?_, rfl, _, _, rfl, rMD_q md rfl rfl rfl rfl⟩; unfold a_alone; rw [if_neg (by omega), if_neg (by omega)]; first | (rw [if_pos (by omega)] at hA4 hB4; rw [if_pos (by omega), ← hA4, ← hB4]; unfold w_fall; rw [if_neg (by omega)]; rfl) | (rw [if_neg (by omega)] at hA4 hB4; rw [if_neg (by omega), ← hA4, ← hB4]; unfold w_fall; rw [if_neg (by omega)]; rfl))
                  · obtain ⟨aA, dA⟩ := hkA (by assumption)
                    obtain ⟨aB, dB⟩ := hkB (by assumption)
                    first | rw [if_pos rfl] at aA dA | rw [if_neg (by decide)] at aA dA
                    first | rw [if_pos rfl] at aB dB | rw [if_neg (by decide)] at aB dB
                    have b1 := kcf_in (m := x) (w := w) (l := l) (by omega) (by omega)
                    have b2 := kcf_in (m := y) (w := w) (l := l) (by omega) (by omega)
                    have b3 := ksf_in (m := x) (w := w) (l := l) (by omega) (by omega)
                    have b4 := ksf_in (m := y) (w := w) (l := l) (by omega) (by omega)
                    obtain ⟨tA, htA⟩ : ∃ t, eA = kg2 (ksf x w l) (ksf y w l) t ∧ fA = kg2 (kcf x w l) (kcf y w l) t ∧ (t = v / 1000 ∨ t = v % 1000) ∧ t = (if e = 0 then w_les x y w l (v / 1000) (v % 1000) else w_gre x y w l (v / 1000) (v % 1000)) := ⟨_, aA, dA, w_ch (by first | exact Or.inl rfl | exact Or.inr rfl), by first | rw [if_pos (by omega)] | rw [if_neg (by omega)]⟩
                    obtain ⟨tB, htB⟩ : ∃ t, eB = kg2 (ksf x w l) (ksf y w l) t ∧ fB = kg2 (kcf x w l) (kcf y w l) t ∧ (t = u / 1000 ∨ t = u % 1000) ∧ t = (if e = 0 then w_gre x y w l (u / 1000) (u % 1000) else w_les x y w l (u / 1000) (u % 1000)) := ⟨_, aB, dB, w_ch (by first | exact Or.inl rfl | exact Or.inr rfl), by first | rw [if_pos (by omega)] | rw [if_neg (by omega)]⟩
                    obtain ⟨hA1, hA2, hA3, hA4⟩ := htA
                    obtain ⟨hB1, hB2, hB3, hB4⟩ := htB
                    have m1 := kg2_in b1 b2 (show 0 ≤ tA by omega) (show tA ≤ 100 by omega)
                    have m2 := kg2_in b3 b4 (show 0 ≤ tA by omega) (show tA ≤ 100 by omega)
                    have m3 := kg2_in b1 b2 (show 0 ≤ tB by omega) (show tB ≤ 100 by omega)
                    have m4 := kg2_in b3 b4 (show 0 ≤ tB by omega) (show tB ≤ 100 by omega)
                    have m5 : ¬ kg2 (kcf x w l) (kcf y w l) tA = 0 := by rcases hA3 with z | z <;> rw [z] <;> omega
                    have m6 : ¬ kg2 (kcf x w l) (kcf y w l) tB = 0 := by rcases hB3 with z | z <;> rw [z] <;> omega
                    rw [hA1, hA2]
                    refine e_lload rfl dX10_alone_112 ?_
                    refine e_lload rfl dX10_alone_114 ?_
                    refine e_aload_n rfl dX10_alone_116 ?_
                    refine e_getf fdX10_254 dX10_alone_117 kmh_97 rfl ?_
                    rw [kq4_g.2.2.1, hB1]
                    refine e_aload_n rfl dX10_alone_120 ?_
                    refine e_getf fdX10_251 dX10_alone_121 kmh_97 rfl ?_
                    rw [kq4_g.2.2.2, hB2]
                    refine e_iload rfl dX10_alone_124 ?_
                    refine eS5 mtX10_less msX10_less lkX10_247 dX10_alone_126 rfl rfl (j_less (by omega) (by omega) (by omega) (by omega) (by omega)) ?_
                    dsimp only [Option.toList, List.cons_append, List.nil_append]
                    refine e_goto (tgt := 135) dX10_alone_129 (by decide) ?_
                    refine e_lreturn dX10_alone_135 rfl ?_
                    first
                    | exact ⟨by unfold a_alone; rw [if_neg (by omega), if_pos (by omega)], rfl, _, _, rfl, rMD_q md rfl rfl rfl rfl⟩
                    | (refine ⟨?_, rfl, _, _, rfl, rMD_q md rfl rfl rfl rfl⟩; unfold a_alone; rw [if_neg (by omega), if_neg (by omega)]; first | (rw [if_pos (by omega)] at hA4 hB4; rw [if_pos (by omega), ← hA4, ← hB4]; unfold w_fall; rw [if_neg (by omega)]; rfl) | (rw [if_neg (by omega)] at hA4 hB4; rw [if_neg (by omega), ← hA4, ← hB4]; unfold w_fall; rw [if_neg (by omega)]; rfl))
                · exact absurd c98 (by omega)
          · refine e_ldc2 (z := (-1000000000000000002)) kcX10_159 (by decide) dX10_alone_43 ?_
            refine e_lreturn dX10_alone_46 rfl ?_
            exact kQm_0 (by unfold a_alone; rw [if_pos (by omega)]) md
set_option maxHeartbeats 4000000 in
set_option maxRecDepth 100000 in
theorem j_aloneN {G : kG} {d : Nat} {h : Nat → Option kC} {n : Nat} {q : Nat → Int} {F : Nat → Nat → Int} {Z : kCs} (md : rMD q F Z) (ok : kCok Z)  {x : Int} (hx : inI x) {y : Int} (hy : inI y) {w : Int} (hw : inI w) {l : Int} (hl : inI l) {v : Int} (hv : inI v) {u : Int} (hu : inI u) {e : Int} (he : inI e) {p : Int} (hp : inI p) (ce : ¬ (0 ≤ e ∧ e ≤ 1)) : kCall G mX10_alone (d + 5) 0 0 [.ref (gB G + 97), .int (jI x), .int (jI y), .int (jI w), .int (jI l), .int (jI v), .int (jI u), .int (jI e), .int (jI p)] (kmh G h q F) n (kQm G h n (.long (jL (a_alone Z x y w l v u e p))) (Z)) := by
  show kE G mX10_alone (d + 5) 0 0 0 [some (.ref (gB G + 97)), some (.int (jI x)), some (.int (jI y)), some (.int (jI w)), some (.int (jI l)), some (.int (jI v)), some (.int (jI u)), some (.int (jI e)), some (.int (jI p)), none, none, none, none, none] [] (kmh G h q F) n _
  refine e_iload_n rfl dX10_alone_0 ?_
  refine e_iload_n rfl dX10_alone_1 ?_
  refine e_iload_n rfl dX10_alone_2 ?_
  refine e_iload rfl dX10_alone_3 ?_
  refine eS4 mtX10_areHumps msX10_areHumps lkX10_234 dX10_alone_5 rfl rfl (j_areHumps (by first | assumption | (unfold inI at *; omega)) (by first | assumption | (unfold inI at *; omega)) (by first | assumption | (unfold inI at *; omega)) (by first | assumption | (unfold inI at *; omega))) ?_
  dsimp only [Option.toList, List.cons_append, List.nil_append]
  refine e_ifeqP (tgt := 43) dX10_alone_8 (by decide) (fun c8 => ?_) (fun c8 => ?_)
  · refine e_ldc2 (z := (-1000000000000000002)) kcX10_159 (by decide) dX10_alone_43 ?_
    refine e_lreturn dX10_alone_46 rfl ?_
    exact kQm_0 (by unfold a_alone; rw [if_pos (by omega)]) md
  · refine e_iload rfl dX10_alone_11 ?_
    refine eS1 mtX10_areShares msX10_areShares lkX10_257 dX10_alone_13 rfl rfl (j_areShares (by first | assumption | (unfold inI at *; omega))) ?_
    dsimp only [Option.toList, List.cons_append, List.nil_append]
    refine e_ifeqP (tgt := 43) dX10_alone_16 (by decide) (fun c16 => ?_) (fun c16 => ?_)
    · refine e_ldc2 (z := (-1000000000000000002)) kcX10_159 (by decide) dX10_alone_43 ?_
      refine e_lreturn dX10_alone_46 rfl ?_
      exact kQm_0 (by unfold a_alone; rw [if_pos (by omega)]) md
    · refine e_iload rfl dX10_alone_19 ?_
      refine eS1 mtX10_areShares msX10_areShares lkX10_257 dX10_alone_21 rfl rfl (j_areShares (by first | assumption | (unfold inI at *; omega))) ?_
      dsimp only [Option.toList, List.cons_append, List.nil_append]
      refine e_ifeqP (tgt := 43) dX10_alone_24 (by decide) (fun c24 => ?_) (fun c24 => ?_)
      · refine e_ldc2 (z := (-1000000000000000002)) kcX10_159 (by decide) dX10_alone_43 ?_
        refine e_lreturn dX10_alone_46 rfl ?_
        exact kQm_0 (by unfold a_alone; rw [if_pos (by omega)]) md
      · refine e_iload rfl dX10_alone_27 ?_
        refine eS1 mtX10_isEnd msX10_isEnd lkX10_124 dX10_alone_29 rfl rfl (j_isEnd (by first | assumption | (unfold inI at *; omega))) ?_
        dsimp only [Option.toList, List.cons_append, List.nil_append]
        refine e_ifeqP (tgt := 43) dX10_alone_32 (by decide) (fun c32 => ?_) (fun c32 => ?_)
        · refine e_ldc2 (z := (-1000000000000000002)) kcX10_159 (by decide) dX10_alone_43 ?_
          refine e_lreturn dX10_alone_46 rfl ?_
          exact kQm_0 (by unfold a_alone; rw [if_pos (by omega)]) md
        · exact absurd c32 (by omega)
theorem j_alone {G : kG} {d : Nat} {h : Nat → Option kC} {n : Nat} {q : Nat → Int} {F : Nat → Nat → Int} {Z : kCs} (md : rMD q F Z) (ok : kCok Z)  {x : Int} (hx : inI x) {y : Int} (hy : inI y) {w : Int} (hw : inI w) {l : Int} (hl : inI l) {v : Int} (hv : inI v) {u : Int} (hu : inI u) {e : Int} (he : inI e) {p : Int} (hp : inI p) : kCall G mX10_alone (d + 5) 0 0 [.ref (gB G + 97), .int (jI x), .int (jI y), .int (jI w), .int (jI l), .int (jI v), .int (jI u), .int (jI e), .int (jI p)] (kmh G h q F) n (kQm G h n (.long (jL (a_alone Z x y w l v u e p))) (Z)) := by
  rcases (show e = 0 ∨ e = 1 ∨ ¬ (0 ≤ e ∧ e ≤ 1) by omega) with c | c | c
  · exact j_alone0 md ok hx hy hw hl hv hu he hp c
  · exact j_alone1 md ok hx hy hw hl hv hu he hp c
  · exact j_aloneN md ok hx hy hw hl hv hu he hp c
