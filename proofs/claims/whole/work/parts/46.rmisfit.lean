/-! THE REFERENCE: MISFIT -/
def kchB (w : Int) (f : Nat → Int) (i : Nat) : Nat → Int := fun j => if j < i then kch w j else f j
theorem kchB_s {w : Int} {f : Nat → Int} {i : Nat} : up (kchB w f i) i (kch w i) = kchB w f (i + 1) := by
  funext j
  unfold up kchB
  by_cases e : j = i
  · rw [if_pos e, if_pos (by omega), e]
  · rw [if_neg e]
    by_cases e2 : j < i
    · rw [if_pos e2, if_pos (by omega)]
    · rw [if_neg e2, if_neg (by omega)]
theorem up2_up2 {F : Nat → Nat → Int} {i : Nat} {A B : Nat → Int} : up2 (up2 F i A) i B = up2 F i B := by
  funext j
  unfold up2
  split <;> rfl
/-- the ways to choose, found -/
def kF1 (F : Nat → Nat → Int) (w : Int) : Nat → Nat → Int := up2 F 111 (kchB w (F 111) (2 * w + 1).toNat)
theorem kF1_c {F : Nat → Nat → Int} {w : Int} (k : Nat) (hk : (k : Int) ≤ 2 * w) : kF1 F w 111 k = kch w k := by
  unfold kF1
  rw [up2_s]
  unfold kchB
  rw [if_pos (by omega)]
theorem kF1_n {F : Nat → Nat → Int} {w : Int} {j : Nat} (h : j ≠ 111) : kF1 F w j = F j := up2_n h
set_option maxHeartbeats 4000000 in
set_option maxRecDepth 100000 in
theorem j_fch_lp {G : kG} {d : Nat} {h : Nat → Option kC} {n : Nat} {q : Nat → Int} {F : Nat → Nat → Int} {w : Int} (w0 : 1 ≤ w ∧ w ≤ 8)  : ∀ (f : Nat) (i : Nat) (z : Int), z = (i : Int) → (i : Int) ≤ 2 * w + 1 → 2 * w + 1 - (i : Int) ≤ f → kE G mX10_findChosen (d + 1) 0 0 2 [some (.ref (gB G + 97)), some (.int (jI w)), some (.int (jI z))] [] (kmh G h q (up2 F 111 (kchB w (F 111) i))) n (kre none (kmh G h q (kF1 F w)) n) := by
  intro f
  induction f with
  | zero =>
    intro i z g1 g2 g3
    refine e_iload_n rfl dX10_findChosen_2 ?_
    refine e_iconst dX10_findChosen_3 ?_
    refine e_iload_n rfl dX10_findChosen_4 ?_
    refine e_imul dX10_findChosen_5 ?_
    refine e_icmp_gt (tgt := 28) dX10_findChosen_6 (by decide) (by first | assumption | (unfold inI at *; omega)) (by first | assumption | (unfold inI at *; omega)) (fun c6 => ?_) (fun c6 => ?_)
    · refine e_return dX10_findChosen_28 rfl ?_
      rw [show i = (2 * w + 1).toNat by omega]
      exact ⟨rfl, rfl, rfl⟩
    · exact absurd c6 (by omega)
  | succ f ih =>
    intro i z g1 g2 g3
    subst g1
    refine e_iload_n rfl dX10_findChosen_2 ?_
    refine e_iconst dX10_findChosen_3 ?_
    refine e_iload_n rfl dX10_findChosen_4 ?_
    refine e_imul dX10_findChosen_5 ?_
    refine e_icmp_gt (tgt := 28) dX10_findChosen_6 (by decide) (by first | assumption | (unfold inI at *; omega)) (by first | assumption | (unfold inI at *; omega)) (fun c6 => ?_) (fun c6 => ?_)
    · refine e_return dX10_findChosen_28 rfl ?_
      rw [show i = (2 * w + 1).toNat by omega]
      exact ⟨rfl, rfl, rfl⟩
    · refine e_aload_n rfl dX10_findChosen_9 ?_
      refine e_getf fdX10_49 dX10_findChosen_10 kmh_97 rfl ?_
      refine e_iload_n rfl dX10_findChosen_13 ?_
      refine e_iconst dX10_findChosen_14 ?_
      refine e_iload_n rfl dX10_findChosen_15 ?_
      refine e_imul dX10_findChosen_16 ?_
      refine e_iload_n rfl dX10_findChosen_17 ?_
      refine eS2 mtX10_choose msX10_choose lkX10_149 dX10_findChosen_18 rfl rfl (j_choose (by omega) (by first | assumption | (unfold inI at *; omega))) ?_
      dsimp only [Option.toList, List.cons_append, List.nil_append]
      refine e_mst (by first | exact ka98 | exact ka99 | exact ka100 | exact ka101 | exact ka102 | exact ka103 | exact ka104 | exact ka105 | exact ka106 | exact ka107 | exact ka108 | exact ka109 | exact ka110 | exact ka111 | exact ka112 | exact ka113) dX10_findChosen_21 (by omega) (by omega) ?_
      rw [up2_s, up2_up2, Int.toNat_natCast, kchB_s]
      refine e_iinc dX10_findChosen_22 rfl rfl ?_
      dsimp only [List.set]
      refine e_goto (tgt := 2) dX10_findChosen_25 (by decide) ?_
      exact ih (i + 1) _ (by omega) (by omega) (by omega)
set_option maxHeartbeats 4000000 in
set_option maxRecDepth 100000 in
theorem j_findChosen {G : kG} {d : Nat} {h : Nat → Option kC} {n : Nat} {q : Nat → Int} {F : Nat → Nat → Int} {w : Int} (w0 : 1 ≤ w ∧ w ≤ 8) : kCall G mX10_findChosen (d + 1) 0 0 [.ref (gB G + 97), .int (jI w)] (kmh G h q F) n (kre none (kmh G h q (kF1 F w)) n) := by
  show kE G mX10_findChosen (d + 1) 0 0 0 [some (.ref (gB G + 97)), some (.int (jI w)), none] [] (kmh G h q F) n _
  refine e_iconst dX10_findChosen_0 ?_
  refine e_istore_n dX10_findChosen_1 rfl rfl ?_
  dsimp only [List.set]
  have q9 := j_fch_lp (G := G) (d := d) (h := h) (n := n) (q := q) (F := F) w0 40 0 0 (by omega) (by omega) (by omega)
  rw [show kchB w (F 111) 0 = F 111 from rfl, up2_id] at q9
  exact q9
theorem kpt_end {m w l k x : Int} (w1 : 1 ≤ w) (w8 : w ≤ 8) (hx : m + w < x) : ksum (fun x => kpq m w l k x) x.toNat = kpt m w l k := by
  unfold kpt
  rcases Nat.le_total x.toNat 64 with e | e
  · exact (ksum_tail e (fun j h1 h2 => kpq_hi w1 w8 (by omega))).symm
  · exact ksum_tail e (fun j h1 h2 => kpq_out (by omega))
theorem kpt_beg {m w l k x : Int} (hx : x ≤ m - w) : ksum (fun x => kpq m w l k x) x.toNat = 0 := ksum_tail (a := 0) (Nat.zero_le _) (fun j h1 h2 => kpq_lo (by omega))
def kG9 (A : Nat → Int) (m w l k : Int) : Nat → Int := fun x => if x < 64 then kmt A m w l k x else 0
theorem kG9_end {A : Nat → Int} (hA : kAok A) {m w l k x : Int} (w1 : 1 ≤ w) (w8 : w ≤ 8) (hx : m + w < x) : ksum (kG9 A m w l k) x.toNat = ksum (kmt A m w l k) 64 := by
  have e9 : ksum (kG9 A m w l k) 64 = ksum (kmt A m w l k) 64 := ksum_cong (fun j hj => if_pos hj)
  rw [← e9]
  rcases Nat.le_total x.toNat 64 with e | e
  · exact (ksum_tail e (fun j h1 h2 => by unfold kG9; rw [if_pos h2]; exact k_mt0 (hA j h2).1 (kpq_hi w1 w8 (by omega)))).symm
  · exact ksum_tail e (fun j h1 h2 => if_neg (by omega))
theorem kG9_beg {A : Nat → Int} (hA : kAok A) {m w l k x : Int} (hx : x ≤ m - w) : ksum (kG9 A m w l k) x.toNat = 0 := ksum_tail (a := 0) (Nat.zero_le _) (fun j h1 h2 => by
  unfold kG9
  split
  · rename_i q
    exact k_mt0 (hA j q).1 (kpq_lo (by omega))
  · rfl)
theorem kG9_step {A : Nat → Int} {m w l k x : Int} : ksum (kG9 A m w l k) (x + 1).toNat = ksum (kG9 A m w l k) x.toNat + (if 0 ≤ x ∧ x ≤ 63 then kmt A m w l k x.toNat else 0) := by
  by_cases h0 : 0 ≤ x
  · rw [show (x + 1).toNat = x.toNat + 1 by omega, ksum_s]
    congr 1
    unfold kG9
    by_cases h1 : x ≤ 63
    · rw [if_pos (by omega), if_pos ⟨h0, h1⟩]
    · rw [if_neg (by omega), if_neg (by omega)]
  · rw [show (x + 1).toNat = 0 by omega, show x.toNat = 0 by omega, if_neg (by omega)]
    rfl
set_option maxHeartbeats 4000000 in
set_option maxRecDepth 100000 in
theorem j_mis2_lp {G : kG} {d : Nat} {h : Nat → Option kC} {n : Nat} {q : Nat → Int} {F : Nat → Nat → Int} {Z : kCs} (md : rMD q F Z) (ok : kCok Z) {b : Int} (hby : 0 ≤ b ∧ b ≤ 5) {m w l : Int} (m0 : 0 ≤ m ∧ m ≤ 63) (w0 : 1 ≤ w ∧ w ≤ 8) (l0 : 0 ≤ l ∧ l ≤ 63) (hch : ∀ k : Nat, (k : Int) ≤ 2 * w → F 111 k = kch w k) (hp : 0 < kpt m w l (hW (cN Z) 0))  : ∀ (f : Nat) (i : Nat) (z y : Int) (e10 e11 e12 e13 : Option Value), z = (i : Int) → (i : Int) ≤ 2 * w + 1 → 2 * w + 1 - (i : Int) ≤ f → y = ksum (hM (cN Z) b.toNat) 64 + ksum (kG9 (hM (cN Z) b.toNat) m w l (hW (cN Z) 0)) (m - w + (i : Int)).toNat → kE G mX10_misfitOf (d + 2) 0 0 90 [some (.ref (gB G + 97)), some (.int (jI b)), some (.int (jI (ksum (hM (cN Z) b.toNat) 64))), some (.int (jI m)), some (.int (jI w)), some (.int (jI l)), some (.long (jL (kpt m w l (hW (cN Z) 0)))), none, some (.int (jI y)), some (.int (jI z)), e10, e11, e12, e13] [] (kmh G h q F) n (kre (some (.int (jI ((kmf (hM (cN Z) b.toNat) m w l (hW (cN Z) 0)))))) (kmh G h q F) n) := by
  have za := ok.1.1 b.toNat (by omega)
  have zA := kA_sum za
  obtain ⟨⟨k0, k1⟩, -⟩ := id ok.1.2.2.1
  obtain ⟨w1, w8⟩ := id w0
  intro f
  induction f with
  | zero =>
    intro i z y e10 e11 e12 e13 g1 g2 g3 g4
    refine e_iload rfl dX10_misfitOf_90 ?_
    refine e_iconst dX10_misfitOf_92 ?_
    refine e_iload rfl dX10_misfitOf_93 ?_
    refine e_imul dX10_misfitOf_95 ?_
    refine e_icmp_gt (tgt := 186) dX10_misfitOf_96 (by decide) (by first | assumption | (unfold inI at *; omega)) (by first | assumption | (unfold inI at *; omega)) (fun c96 => ?_) (fun c96 => ?_)
    · refine e_iload rfl dX10_misfitOf_186 ?_
      refine e_ireturn dX10_misfitOf_188 rfl rfl ?_
      exact ⟨by rw [g4, kG9_end za w1 w8 (by omega)]; unfold kmf; rw [if_neg (by omega)], rfl, rfl⟩
    · exact absurd c96 (by omega)
  | succ f ih =>
    intro i z y e10 e11 e12 e13 g1 g2 g3 g4
    subst g1
    have q9 := kG9_step (A := (hM (cN Z) b.toNat)) (m := m) (w := w) (l := l) (k := (hW (cN Z) 0)) (x := (m - w + (i : Int)))
    refine e_iload rfl dX10_misfitOf_90 ?_
    refine e_iconst dX10_misfitOf_92 ?_
    refine e_iload rfl dX10_misfitOf_93 ?_
    refine e_imul dX10_misfitOf_95 ?_
    refine e_icmp_gt (tgt := 186) dX10_misfitOf_96 (by decide) (by first | assumption | (unfold inI at *; omega)) (by first | assumption | (unfold inI at *; omega)) (fun c96 => ?_) (fun c96 => ?_)
    · refine e_iload rfl dX10_misfitOf_186 ?_
      refine e_ireturn dX10_misfitOf_188 rfl rfl ?_
      exact ⟨by rw [g4, kG9_end za w1 w8 (by omega)]; unfold kmf; rw [if_neg (by omega)], rfl, rfl⟩
    · refine e_iload_n rfl dX10_misfitOf_99 ?_
      refine e_iload rfl dX10_misfitOf_100 ?_
      refine e_isub dX10_misfitOf_102 ?_
      refine e_iload rfl dX10_misfitOf_103 ?_
      refine e_iadd dX10_misfitOf_105 ?_
      refine e_istore dX10_misfitOf_106 rfl rfl ?_
      dsimp only [List.set]
      refine e_iload rfl dX10_misfitOf_108 ?_
      refine eS1 mtX10_isHeight msX10_isHeight lkX10_80 dX10_misfitOf_110 rfl rfl (j_isHeight (by first | assumption | (unfold inI at *; omega))) ?_
      dsimp only [Option.toList, List.cons_append, List.nil_append]
      refine e_ifeqP (tgt := 180) dX10_misfitOf_113 (by decide) (fun c113 => ?_) (fun c113 => ?_)
      · refine e_iinc dX10_misfitOf_180 rfl rfl ?_
        dsimp only [List.set]
        refine e_goto (tgt := 90) dX10_misfitOf_183 (by decide) ?_
        have q1 := ih (i + 1) ((i : Int) + 1)
        rw [show m - w + ((i + 1 : Nat) : Int) = (m - w + (i : Int)) + 1 by omega, q9] at q1
        first
        | (rw [if_pos (by omega)] at q1; exact q1 _ _ _ _ _ (by omega) (by omega) (by omega) (by rw [g4]; unfold kmt; rw [q2]; omega))
        | (rw [if_neg (by omega)] at q1; exact q1 _ _ _ _ _ (by omega) (by omega) (by omega) (by rw [g4, Int.add_zero]))
      · refine e_aload_n rfl dX10_misfitOf_116 ?_
        refine e_getf fdX10_7 dX10_misfitOf_117 kmh_97 rfl ?_
        refine e_iload_n rfl dX10_misfitOf_120 ?_
        refine e_iload rfl dX10_misfitOf_121 ?_
        refine eS2 mtX10_at msX10_at lkX10_85 dX10_misfitOf_123 rfl rfl j_at ?_
        dsimp only [Option.toList, List.cons_append, List.nil_append]
        refine e_mld (by first | exact ka98 | exact ka99 | exact ka100 | exact ka101 | exact ka102 | exact ka103 | exact ka104 | exact ka105 | exact ka106 | exact ka107 | exact ka108 | exact ka109 | exact ka110 | exact ka111 | exact ka112 | exact ka113) dX10_misfitOf_126 (by omega) (by omega) ?_
        rw [md_m md (by omega) (by omega)]
        have q6 := za (m - w + (i : Int)).toNat (by omega)
        refine e_istore dX10_misfitOf_127 rfl rfl ?_
        dsimp only [List.set]
        refine e_iload_n rfl dX10_misfitOf_129 ?_
        refine e_i2l (by first | assumption | (unfold inI at *; omega)) dX10_misfitOf_130 ?_
        refine e_aload_n rfl dX10_misfitOf_131 ?_
        refine e_getf fdX10_49 dX10_misfitOf_132 kmh_97 rfl ?_
        refine e_iload rfl dX10_misfitOf_135 ?_
        refine e_mld (by first | exact ka98 | exact ka99 | exact ka100 | exact ka101 | exact ka102 | exact ka103 | exact ka104 | exact ka105 | exact ka106 | exact ka107 | exact ka108 | exact ka109 | exact ka110 | exact ka111 | exact ka112 | exact ka113) dX10_misfitOf_137 (by omega) (by omega) ?_
        rw [Int.toNat_natCast, hch i (by omega)]
        have q8 := kch_in w1 w8 (i : Int)
        have q7 : khm m w (m - w + (i : Int)) = kch w (i : Int) := by unfold khm; rw [if_pos (by omega)]; congr 1; omega
        have q5 := kpq_in (m := m) (l := l) (k := (hW (cN Z) 0)) w1 w8 k0 k1 (m - w + (i : Int))
        refine e_iload rfl dX10_misfitOf_138 ?_
        refine e_iload rfl dX10_misfitOf_140 ?_
        refine e_icmp_lt (tgt := 150) dX10_misfitOf_142 (by decide) (by first | assumption | (unfold inI at *; omega)) (by first | assumption | (unfold inI at *; omega)) (fun c142 => ?_) (fun c142 => ?_)
        · refine e_aload_n rfl dX10_misfitOf_150 ?_
          refine e_getf fdX10_22 dX10_misfitOf_151 kmh_97 rfl ?_
          refine e_iconst dX10_misfitOf_154 ?_
          refine e_mld (by first | exact ka98 | exact ka99 | exact ka100 | exact ka101 | exact ka102 | exact ka103 | exact ka104 | exact ka105 | exact ka106 | exact ka107 | exact ka108 | exact ka109 | exact ka110 | exact ka111 | exact ka112 | exact ka113) dX10_misfitOf_155 (by omega) (by omega) ?_
          rw [show (0 : Int).toNat = 0 from rfl, md_w md (by omega)]
          refine e_imul dX10_misfitOf_156 ?_
          first | rw [show kch w (i : Int) * 10 = kpq m w l (hW (cN Z) 0) (m - w + (i : Int)) by unfold kpq; rw [q7, if_pos (by omega)]] | rw [show kch w (i : Int) * (hW (cN Z) 0) = kpq m w l (hW (cN Z) 0) (m - w + (i : Int)) by unfold kpq; rw [q7, if_neg (by omega)]]
          refine e_i2l (by first | assumption | (unfold inI at *; omega)) dX10_misfitOf_157 ?_
          refine e_lmul dX10_misfitOf_158 ?_
          refine e_lload rfl dX10_misfitOf_159 ?_
          refine e_ldivN (by have z1 : ksum (hM (cN Z) b.toNat) 64 * kpq m w l (hW (cN Z) 0) (m - w + (i : Int)) ≤ 63936 * 128700 := Int.mul_le_mul zA.2 q5.2 q5.1 (by decide); have z2 := Int.mul_nonneg zA.1 q5.1; unfold inL; omega) (by have := kpt_in (m := m) (l := l) (k := (hW (cN Z) 0)) w1 w8 k0 k1; unfold inL; omega) (by omega) (Int.mul_nonneg zA.1 q5.1) dX10_misfitOf_161 ?_
          rw [show ksum (hM (cN Z) b.toNat) 64 * kpq m w l (hW (cN Z) 0) (m - w + (i : Int)) / kpt m w l (hW (cN Z) 0) = kdu (hM (cN Z) b.toNat) m w l (hW (cN Z) 0) (m - w + (i : Int)) from rfl]
          have q4 := kdu_in za (m := m) (l := l) (k := (hW (cN Z) 0)) w1 w8 k0 k1 hp (m - w + (i : Int))
          have q3 := kdu_le za (m := m) (l := l) (k := (hW (cN Z) 0)) w1 w8 k0 k1 hp (x := (m - w + (i : Int)).toNat) (by omega)
          have q2 : (((m - w + (i : Int)).toNat : Nat) : Int) = (m - w + (i : Int)) := by omega
          rw [q2] at q3
          refine e_lstore dX10_misfitOf_162 rfl rfl ?_
          dsimp only [List.set]
          refine e_iload rfl dX10_misfitOf_164 ?_
          refine e_iload rfl dX10_misfitOf_166 ?_
          refine e_lload rfl dX10_misfitOf_168 ?_
          refine e_l2i dX10_misfitOf_170 ?_
          refine eS2 mtX10_apart msX10_apart lkX10_165 dX10_misfitOf_171 rfl rfl (j_apart (by first | assumption | (unfold inI at *; omega)) (by first | assumption | (unfold inI at *; omega))) ?_
          dsimp only [Option.toList, List.cons_append, List.nil_append]
          refine e_iload rfl dX10_misfitOf_174 ?_
          refine e_isub dX10_misfitOf_176 ?_
          refine e_iadd dX10_misfitOf_177 ?_
          refine e_istore dX10_misfitOf_178 rfl rfl ?_
          dsimp only [List.set]
          refine e_iinc dX10_misfitOf_180 rfl rfl ?_
          dsimp only [List.set]
          refine e_goto (tgt := 90) dX10_misfitOf_183 (by decide) ?_
          have q1 := ih (i + 1) ((i : Int) + 1)
          rw [show m - w + ((i + 1 : Nat) : Int) = (m - w + (i : Int)) + 1 by omega, q9] at q1
          first
          | (rw [if_pos (by omega)] at q1; exact q1 _ _ _ _ _ (by omega) (by omega) (by omega) (by rw [g4]; unfold kmt; rw [q2]; omega))
          | (rw [if_neg (by omega)] at q1; exact q1 _ _ _ _ _ (by omega) (by omega) (by omega) (by rw [g4, Int.add_zero]))
        · refine e_bipush (by decide) dX10_misfitOf_145 ?_
          refine e_goto (tgt := 156) dX10_misfitOf_147 (by decide) ?_
          refine e_imul dX10_misfitOf_156 ?_
          first | rw [show kch w (i : Int) * 10 = kpq m w l (hW (cN Z) 0) (m - w + (i : Int)) by unfold kpq; rw [q7, if_pos (by omega)]] | rw [show kch w (i : Int) * (hW (cN Z) 0) = kpq m w l (hW (cN Z) 0) (m - w + (i : Int)) by unfold kpq; rw [q7, if_neg (by omega)]]
          refine e_i2l (by first | assumption | (unfold inI at *; omega)) dX10_misfitOf_157 ?_
          refine e_lmul dX10_misfitOf_158 ?_
          refine e_lload rfl dX10_misfitOf_159 ?_
          refine e_ldivN (by have z1 : ksum (hM (cN Z) b.toNat) 64 * kpq m w l (hW (cN Z) 0) (m - w + (i : Int)) ≤ 63936 * 128700 := Int.mul_le_mul zA.2 q5.2 q5.1 (by decide); have z2 := Int.mul_nonneg zA.1 q5.1; unfold inL; omega) (by have := kpt_in (m := m) (l := l) (k := (hW (cN Z) 0)) w1 w8 k0 k1; unfold inL; omega) (by omega) (Int.mul_nonneg zA.1 q5.1) dX10_misfitOf_161 ?_
          rw [show ksum (hM (cN Z) b.toNat) 64 * kpq m w l (hW (cN Z) 0) (m - w + (i : Int)) / kpt m w l (hW (cN Z) 0) = kdu (hM (cN Z) b.toNat) m w l (hW (cN Z) 0) (m - w + (i : Int)) from rfl]
          have q4 := kdu_in za (m := m) (l := l) (k := (hW (cN Z) 0)) w1 w8 k0 k1 hp (m - w + (i : Int))
          have q3 := kdu_le za (m := m) (l := l) (k := (hW (cN Z) 0)) w1 w8 k0 k1 hp (x := (m - w + (i : Int)).toNat) (by omega)
          have q2 : (((m - w + (i : Int)).toNat : Nat) : Int) = (m - w + (i : Int)) := by omega
          rw [q2] at q3
          refine e_lstore dX10_misfitOf_162 rfl rfl ?_
          dsimp only [List.set]
          refine e_iload rfl dX10_misfitOf_164 ?_
          refine e_iload rfl dX10_misfitOf_166 ?_
          refine e_lload rfl dX10_misfitOf_168 ?_
          refine e_l2i dX10_misfitOf_170 ?_
          refine eS2 mtX10_apart msX10_apart lkX10_165 dX10_misfitOf_171 rfl rfl (j_apart (by first | assumption | (unfold inI at *; omega)) (by first | assumption | (unfold inI at *; omega))) ?_
          dsimp only [Option.toList, List.cons_append, List.nil_append]
          refine e_iload rfl dX10_misfitOf_174 ?_
          refine e_isub dX10_misfitOf_176 ?_
          refine e_iadd dX10_misfitOf_177 ?_
          refine e_istore dX10_misfitOf_178 rfl rfl ?_
          dsimp only [List.set]
          refine e_iinc dX10_misfitOf_180 rfl rfl ?_
          dsimp only [List.set]
          refine e_goto (tgt := 90) dX10_misfitOf_183 (by decide) ?_
          have q1 := ih (i + 1) ((i : Int) + 1)
          rw [show m - w + ((i + 1 : Nat) : Int) = (m - w + (i : Int)) + 1 by omega, q9] at q1
          first
          | (rw [if_pos (by omega)] at q1; exact q1 _ _ _ _ _ (by omega) (by omega) (by omega) (by rw [g4]; unfold kmt; rw [q2]; omega))
          | (rw [if_neg (by omega)] at q1; exact q1 _ _ _ _ _ (by omega) (by omega) (by omega) (by rw [g4, Int.add_zero]))
set_option maxHeartbeats 4000000 in
set_option maxRecDepth 100000 in
theorem j_mis74 {G : kG} {d : Nat} {h : Nat → Option kC} {n : Nat} {q : Nat → Int} {F : Nat → Nat → Int} {Z : kCs} (md : rMD q F Z) (ok : kCok Z) {b : Int} (hby : 0 ≤ b ∧ b ≤ 5) {m w l : Int} (m0 : 0 ≤ m ∧ m ≤ 63) (w0 : 1 ≤ w ∧ w ≤ 8) (l0 : 0 ≤ l ∧ l ≤ 63) (hch : ∀ k : Nat, (k : Int) ≤ 2 * w → F 111 k = kch w k) {e8 e9 e10 e11 e12 e13 : Option Value} : kE G mX10_misfitOf (d + 2) 0 0 74 [some (.ref (gB G + 97)), some (.int (jI b)), some (.int (jI (ksum (hM (cN Z) b.toNat) 64))), some (.int (jI m)), some (.int (jI w)), some (.int (jI l)), some (.long (jL (kpt m w l (hW (cN Z) 0)))), none, e8, e9, e10, e11, e12, e13] [] (kmh G h q F) n (kre (some (.int (jI ((kmf (hM (cN Z) b.toNat) m w l (hW (cN Z) 0)))))) (kmh G h q F) n) := by
  have za := ok.1.1 b.toNat (by omega)
  have zA := kA_sum za
  obtain ⟨⟨k0, k1⟩, -⟩ := id ok.1.2.2.1
  obtain ⟨w1, w8⟩ := id w0
  have q3 := kpt_in (m := m) (l := l) (k := (hW (cN Z) 0)) w1 w8 k0 k1
  refine e_lload rfl dX10_misfitOf_74 ?_
  refine e_lconst (z := 0) (by decide) dX10_misfitOf_76 ?_
  refine e_lcmp_ne (tgt := 84) dX10_misfitOf_77 dX10_misfitOf_78 (by decide) (by first | assumption | (unfold inL at *; omega)) (by first | assumption | (unfold inL at *; omega)) (fun c77 => ?_) (fun c77 => ?_)
  · refine e_iload_n rfl dX10_misfitOf_84 ?_
    refine e_istore dX10_misfitOf_85 rfl rfl ?_
    dsimp only [List.set]
    refine e_iconst dX10_misfitOf_87 ?_
    refine e_istore dX10_misfitOf_88 rfl rfl ?_
    dsimp only [List.set]
    exact j_mis2_lp md ok hby m0 w0 l0 hch (by omega) 40 0 _ _ _ _ _ _ (by omega) (by omega) (by omega) (by rw [show m - w + ((0 : Nat) : Int) = m - w by omega, kG9_beg za (by omega), Int.add_zero])
  · refine e_bipush (by decide) dX10_misfitOf_81 ?_
    refine e_ireturn dX10_misfitOf_83 rfl rfl ?_
    exact ⟨by unfold kmf; rw [if_pos (by omega)], rfl, rfl⟩
set_option maxHeartbeats 4000000 in
set_option maxRecDepth 100000 in
theorem j_mis1_lp {G : kG} {d : Nat} {h : Nat → Option kC} {n : Nat} {q : Nat → Int} {F : Nat → Nat → Int} {Z : kCs} (md : rMD q F Z) (ok : kCok Z) {b : Int} (hby : 0 ≤ b ∧ b ≤ 5) {m w l : Int} (m0 : 0 ≤ m ∧ m ≤ 63) (w0 : 1 ≤ w ∧ w ≤ 8) (l0 : 0 ≤ l ∧ l ≤ 63) (hch : ∀ k : Nat, (k : Int) ≤ 2 * w → F 111 k = kch w k)  : ∀ (f : Nat) (i : Nat) (z y : Int) (e9 e10 e11 e12 e13 : Option Value), z = (i : Int) → (i : Int) ≤ 2 * w + 1 → 2 * w + 1 - (i : Int) ≤ f → y = ksum (fun x => kpq m w l (hW (cN Z) 0) x) (m - w + (i : Int)).toNat → kE G mX10_misfitOf (d + 2) 0 0 6 [some (.ref (gB G + 97)), some (.int (jI b)), some (.int (jI (ksum (hM (cN Z) b.toNat) 64))), some (.int (jI m)), some (.int (jI w)), some (.int (jI l)), some (.long (jL y)), none, some (.int (jI z)), e9, e10, e11, e12, e13] [] (kmh G h q F) n (kre (some (.int (jI ((kmf (hM (cN Z) b.toNat) m w l (hW (cN Z) 0)))))) (kmh G h q F) n) := by
  have za := ok.1.1 b.toNat (by omega)
  have zA := kA_sum za
  obtain ⟨⟨k0, k1⟩, -⟩ := id ok.1.2.2.1
  obtain ⟨w1, w8⟩ := id w0
  intro f
  induction f with
  | zero =>
    intro i z y e9 e10 e11 e12 e13 g1 g2 g3 g4
    refine e_iload rfl dX10_misfitOf_6 ?_
    refine e_iconst dX10_misfitOf_8 ?_
    refine e_iload rfl dX10_misfitOf_9 ?_
    refine e_imul dX10_misfitOf_11 ?_
    refine e_icmp_gt (tgt := 74) dX10_misfitOf_12 (by decide) (by first | assumption | (unfold inI at *; omega)) (by first | assumption | (unfold inI at *; omega)) (fun c12 => ?_) (fun c12 => ?_)
    · rw [show y = kpt m w l (hW (cN Z) 0) by rw [g4, kpt_end w1 w8 (by omega)]]
      exact j_mis74 md ok hby m0 w0 l0 hch
    · exact absurd c12 (by omega)
  | succ f ih =>
    intro i z y e9 e10 e11 e12 e13 g1 g2 g3 g4
    subst g1
    have q9 := kpq_step (m := m) (w := w) (l := l) (k := (hW (cN Z) 0)) (x := (m - w + (i : Int))) (by omega)
    refine e_iload rfl dX10_misfitOf_6 ?_
    refine e_iconst dX10_misfitOf_8 ?_
    refine e_iload rfl dX10_misfitOf_9 ?_
    refine e_imul dX10_misfitOf_11 ?_
    refine e_icmp_gt (tgt := 74) dX10_misfitOf_12 (by decide) (by first | assumption | (unfold inI at *; omega)) (by first | assumption | (unfold inI at *; omega)) (fun c12 => ?_) (fun c12 => ?_)
    · rw [show y = kpt m w l (hW (cN Z) 0) by rw [g4, kpt_end w1 w8 (by omega)]]
      exact j_mis74 md ok hby m0 w0 l0 hch
    · refine e_iload_n rfl dX10_misfitOf_15 ?_
      refine e_iload rfl dX10_misfitOf_16 ?_
      refine e_isub dX10_misfitOf_18 ?_
      refine e_iload rfl dX10_misfitOf_19 ?_
      refine e_iadd dX10_misfitOf_21 ?_
      refine e_istore dX10_misfitOf_22 rfl rfl ?_
      dsimp only [List.set]
      refine e_lload rfl dX10_misfitOf_24 ?_
      refine e_iload rfl dX10_misfitOf_26 ?_
      refine eS1 mtX10_isHeight msX10_isHeight lkX10_80 dX10_misfitOf_28 rfl rfl (j_isHeight (by first | assumption | (unfold inI at *; omega))) ?_
      dsimp only [Option.toList, List.cons_append, List.nil_append]
      refine e_ifneP (tgt := 38) dX10_misfitOf_31 (by decide) (fun c31 => ?_) (fun c31 => ?_)
      · refine e_aload_n rfl dX10_misfitOf_38 ?_
        refine e_getf fdX10_49 dX10_misfitOf_39 kmh_97 rfl ?_
        refine e_iload rfl dX10_misfitOf_42 ?_
        refine e_mld (by first | exact ka98 | exact ka99 | exact ka100 | exact ka101 | exact ka102 | exact ka103 | exact ka104 | exact ka105 | exact ka106 | exact ka107 | exact ka108 | exact ka109 | exact ka110 | exact ka111 | exact ka112 | exact ka113) dX10_misfitOf_44 (by omega) (by omega) ?_
        rw [Int.toNat_natCast, hch i (by omega)]
        have q8 := kch_in w1 w8 (i : Int)
        have q7 : khm m w (m - w + (i : Int)) = kch w (i : Int) := by unfold khm; rw [if_pos (by omega)]; congr 1; omega
        have q5 := kpq_in (m := m) (l := l) (k := (hW (cN Z) 0)) w1 w8 k0 k1 (m - w + (i : Int))
        refine e_iload rfl dX10_misfitOf_45 ?_
        refine e_iload rfl dX10_misfitOf_47 ?_
        refine e_icmp_lt (tgt := 57) dX10_misfitOf_49 (by decide) (by first | assumption | (unfold inI at *; omega)) (by first | assumption | (unfold inI at *; omega)) (fun c49 => ?_) (fun c49 => ?_)
        · refine e_aload_n rfl dX10_misfitOf_57 ?_
          refine e_getf fdX10_22 dX10_misfitOf_58 kmh_97 rfl ?_
          refine e_iconst dX10_misfitOf_61 ?_
          refine e_mld (by first | exact ka98 | exact ka99 | exact ka100 | exact ka101 | exact ka102 | exact ka103 | exact ka104 | exact ka105 | exact ka106 | exact ka107 | exact ka108 | exact ka109 | exact ka110 | exact ka111 | exact ka112 | exact ka113) dX10_misfitOf_62 (by omega) (by omega) ?_
          rw [show (0 : Int).toNat = 0 from rfl, md_w md (by omega)]
          refine e_imul dX10_misfitOf_63 ?_
          first | rw [show kch w (i : Int) * 10 = kpq m w l (hW (cN Z) 0) (m - w + (i : Int)) by unfold kpq; rw [q7, if_pos (by omega)]] | rw [show kch w (i : Int) * (hW (cN Z) 0) = kpq m w l (hW (cN Z) 0) (m - w + (i : Int)) by unfold kpq; rw [q7, if_neg (by omega)]]
          refine e_i2l (by first | assumption | (unfold inI at *; omega)) dX10_misfitOf_64 ?_
          refine e_ladd dX10_misfitOf_65 ?_
          refine e_lstore dX10_misfitOf_66 rfl rfl ?_
          dsimp only [List.set]
          refine e_iinc dX10_misfitOf_68 rfl rfl ?_
          dsimp only [List.set]
          refine e_goto (tgt := 6) dX10_misfitOf_71 (by decide) ?_
          refine ih (i + 1) _ _ _ _ _ _ _ (by omega) (by omega) (by omega) ?_
          rw [g4, show m - w + ((i + 1 : Nat) : Int) = (m - w + (i : Int)) + 1 by omega, q9]
          try rw [kpq_out (show (m - w + (i : Int)) < 0 ∨ 63 < (m - w + (i : Int)) by omega)]
        · refine e_bipush (by decide) dX10_misfitOf_52 ?_
          refine e_goto (tgt := 63) dX10_misfitOf_54 (by decide) ?_
          refine e_imul dX10_misfitOf_63 ?_
          first | rw [show kch w (i : Int) * 10 = kpq m w l (hW (cN Z) 0) (m - w + (i : Int)) by unfold kpq; rw [q7, if_pos (by omega)]] | rw [show kch w (i : Int) * (hW (cN Z) 0) = kpq m w l (hW (cN Z) 0) (m - w + (i : Int)) by unfold kpq; rw [q7, if_neg (by omega)]]
          refine e_i2l (by first | assumption | (unfold inI at *; omega)) dX10_misfitOf_64 ?_
          refine e_ladd dX10_misfitOf_65 ?_
          refine e_lstore dX10_misfitOf_66 rfl rfl ?_
          dsimp only [List.set]
          refine e_iinc dX10_misfitOf_68 rfl rfl ?_
          dsimp only [List.set]
          refine e_goto (tgt := 6) dX10_misfitOf_71 (by decide) ?_
          refine ih (i + 1) _ _ _ _ _ _ _ (by omega) (by omega) (by omega) ?_
          rw [g4, show m - w + ((i + 1 : Nat) : Int) = (m - w + (i : Int)) + 1 by omega, q9]
          try rw [kpq_out (show (m - w + (i : Int)) < 0 ∨ 63 < (m - w + (i : Int)) by omega)]
      · refine e_lconst (z := 0) (by decide) dX10_misfitOf_34 ?_
        refine e_goto (tgt := 65) dX10_misfitOf_35 (by decide) ?_
        refine e_ladd dX10_misfitOf_65 ?_
        refine e_lstore dX10_misfitOf_66 rfl rfl ?_
        dsimp only [List.set]
        refine e_iinc dX10_misfitOf_68 rfl rfl ?_
        dsimp only [List.set]
        refine e_goto (tgt := 6) dX10_misfitOf_71 (by decide) ?_
        refine ih (i + 1) _ _ _ _ _ _ _ (by omega) (by omega) (by omega) ?_
        rw [g4, show m - w + ((i + 1 : Nat) : Int) = (m - w + (i : Int)) + 1 by omega, q9]
        try rw [kpq_out (show (m - w + (i : Int)) < 0 ∨ 63 < (m - w + (i : Int)) by omega)]
set_option maxHeartbeats 4000000 in
set_option maxRecDepth 100000 in
theorem j_misfitOf {G : kG} {d : Nat} {h : Nat → Option kC} {n : Nat} {q : Nat → Int} {F : Nat → Nat → Int} {Z : kCs} (md : rMD q F Z) (ok : kCok Z) {b : Int} (hby : 0 ≤ b ∧ b ≤ 5) {m w l : Int} (m0 : 0 ≤ m ∧ m ≤ 63) (w0 : 1 ≤ w ∧ w ≤ 8) (l0 : 0 ≤ l ∧ l ≤ 63) (hch : ∀ k : Nat, (k : Int) ≤ 2 * w → F 111 k = kch w k)  : kCall G mX10_misfitOf (d + 2) 0 0 [.ref (gB G + 97), .int (jI b), .int (jI (ksum (hM (cN Z) b.toNat) 64)), .int (jI m), .int (jI w), .int (jI l)] (kmh G h q F) n (kre (some (.int (jI ((kmf (hM (cN Z) b.toNat) m w l (hW (cN Z) 0)))))) (kmh G h q F) n) := by
  show kE G mX10_misfitOf (d + 2) 0 0 0 [some (.ref (gB G + 97)), some (.int (jI b)), some (.int (jI (ksum (hM (cN Z) b.toNat) 64))), some (.int (jI m)), some (.int (jI w)), some (.int (jI l)), none, none, none, none, none, none, none, none] [] (kmh G h q F) n _
  refine e_lconst (z := 0) (by decide) dX10_misfitOf_0 ?_
  refine e_lstore dX10_misfitOf_1 rfl rfl ?_
  dsimp only [List.set]
  refine e_iconst dX10_misfitOf_3 ?_
  refine e_istore dX10_misfitOf_4 rfl rfl ?_
  dsimp only [List.set]
  exact j_mis1_lp md ok hby m0 w0 l0 hch 40 0 _ _ _ _ _ _ _ (by omega) (by omega) (by omega) (by rw [show m - w + ((0 : Nat) : Int) = m - w by omega, kpt_beg (by omega)])
set_option maxHeartbeats 4000000 in
set_option maxRecDepth 100000 in
theorem j_misfit {G : kG} {d : Nat} {h : Nat → Option kC} {n : Nat} {q : Nat → Int} {F : Nat → Nat → Int} {Z : kCs} (md : rMD q F Z) (ok : kCok Z)  {b : Int} (hb : inI b) {m : Int} (hm : inI m) {w : Int} (hw : inI w) {l : Int} (hl : inI l) : kCall G mX10_misfit (d + 4) 0 0 [.ref (gB G + 97), .int (jI b), .int (jI m), .int (jI w), .int (jI l)] (kmh G h q F) n (kQm G h n (.int (jI (a_misfit Z b m w l))) (Z)) := by
  show kE G mX10_misfit (d + 4) 0 0 0 [some (.ref (gB G + 97)), some (.int (jI b)), some (.int (jI m)), some (.int (jI w)), some (.int (jI l))] [] (kmh G h q F) n _
  refine e_iload_n rfl dX10_misfit_0 ?_
  refine eS1 mtX10_isBook msX10_isBook lkX10_76 dX10_misfit_1 rfl rfl (j_isBook (by first | assumption | (unfold inI at *; omega))) ?_
  dsimp only [Option.toList, List.cons_append, List.nil_append]
  refine e_ifneP (tgt := 9) dX10_misfit_4 (by decide) (fun c4 => ?_) (fun c4 => ?_)
  · refine e_iload_n rfl dX10_misfit_9 ?_
    refine eS1 mtX10_isHeight msX10_isHeight lkX10_80 dX10_misfit_10 rfl rfl (j_isHeight (by first | assumption | (unfold inI at *; omega))) ?_
    dsimp only [Option.toList, List.cons_append, List.nil_append]
    refine e_ifeqP (tgt := 31) dX10_misfit_13 (by decide) (fun c13 => ?_) (fun c13 => ?_)
    · refine e_bipush (by decide) dX10_misfit_31 ?_
      refine e_ireturn dX10_misfit_33 rfl rfl ?_
      exact kQm_0 (by unfold a_misfit; (repeat' split) <;> first | rfl | (exfalso; omega)) md
    · refine e_iload_n rfl dX10_misfit_16 ?_
      refine eS1 mtX10_isWidth msX10_isWidth lkX10_152 dX10_misfit_17 rfl rfl (j_isWidth (by first | assumption | (unfold inI at *; omega))) ?_
      dsimp only [Option.toList, List.cons_append, List.nil_append]
      refine e_ifeqP (tgt := 31) dX10_misfit_20 (by decide) (fun c20 => ?_) (fun c20 => ?_)
      · refine e_bipush (by decide) dX10_misfit_31 ?_
        refine e_ireturn dX10_misfit_33 rfl rfl ?_
        exact kQm_0 (by unfold a_misfit; (repeat' split) <;> first | rfl | (exfalso; omega)) md
      · refine e_iload rfl dX10_misfit_23 ?_
        refine eS1 mtX10_isHeight msX10_isHeight lkX10_80 dX10_misfit_25 rfl rfl (j_isHeight (by first | assumption | (unfold inI at *; omega))) ?_
        dsimp only [Option.toList, List.cons_append, List.nil_append]
        refine e_ifneP (tgt := 34) dX10_misfit_28 (by decide) (fun c28 => ?_) (fun c28 => ?_)
        · refine e_aload_n rfl dX10_misfit_34 ?_
          refine e_iload_n rfl dX10_misfit_35 ?_
          refine eV1 mtX10_findChosen miX10_findChosen lkX10_168 dX10_misfit_36 kmh_97 rfl rfl rfl (j_findChosen (by omega)) ?_
          dsimp only [Option.toList, List.cons_append, List.nil_append]
          have md1 : rMD q (kF1 F w) Z := rMD_F md (fun j h1 h2 => kF1_n h1)
          refine e_aload_n rfl dX10_misfit_39 ?_
          refine e_iload_n rfl dX10_misfit_40 ?_
          refine e_aload_n rfl dX10_misfit_41 ?_
          refine e_iload_n rfl dX10_misfit_42 ?_
          refine eV1 mtX10_all miX10_all lkX10_172 dX10_misfit_43 kmh_97 rfl rfl rfl (j_all md1 ok (by omega)) ?_
          dsimp only [Option.toList, List.cons_append, List.nil_append]
          refine e_iload_n rfl dX10_misfit_46 ?_
          refine e_iload_n rfl dX10_misfit_47 ?_
          refine e_iload rfl dX10_misfit_48 ?_
          refine eV5 mtX10_misfitOf miX10_misfitOf lkX10_175 dX10_misfit_50 kmh_97 rfl rfl rfl (j_misfitOf md1 ok (by omega) (by omega) (by omega) (by omega) kF1_c) ?_
          dsimp only [Option.toList, List.cons_append, List.nil_append]
          refine e_ireturn dX10_misfit_53 rfl rfl ?_
          exact ⟨by unfold a_misfit; rw [if_neg (by omega), if_pos (by omega)], rfl, _, _, rfl, md1⟩
        · refine e_bipush (by decide) dX10_misfit_31 ?_
          refine e_ireturn dX10_misfit_33 rfl rfl ?_
          exact kQm_0 (by unfold a_misfit; (repeat' split) <;> first | rfl | (exfalso; omega)) md
  · refine e_iconst dX10_misfit_7 ?_
    refine e_ireturn dX10_misfit_8 rfl rfl ?_
    exact kQm_0 (by unfold a_misfit; (repeat' split) <;> first | rfl | (exfalso; omega)) md
