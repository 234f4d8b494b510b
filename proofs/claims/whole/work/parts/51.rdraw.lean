/-! THE REFERENCE: WORLDS -/
theorem up_up {q : Nat → Int} {k : Nat} {a b : Int} : up (up q k a) k b = up q k b := by
  funext j
  unfold up
  split <;> rfl
set_option maxHeartbeats 4000000 in
set_option maxRecDepth 100000 in
theorem j_draw {G : kG} {d : Nat} {h : Nat → Option kC} {n : Nat} {q : Nat → Int} {F : Nat → Nat → Int} {s : Int} (s0 : 0 ≤ s ∧ s ≤ 65536) {y : Int} (y0 : 0 < y ∧ y ≤ 65536) : kCall G mX10_draw d 0 0 [.ref (gB G + 97), .int (jI y)] (kmh G h (up q 27 s) F) n (kre (some (.int (jI (ksd s % y)))) (kmh G h (up q 27 (ksd s)) F) n) := by
  show kE G mX10_draw d 0 0 0 [some (.ref (gB G + 97)), some (.int (jI y))] [] (kmh G h (up q 27 s) F) n _
  have z9 := ksd_in s
  refine e_aload_n rfl dX10_draw_0 ?_
  refine e_bipush (by decide) dX10_draw_1 ?_
  refine e_aload_n rfl dX10_draw_3 ?_
  refine e_getf fdX10_273 dX10_draw_4 kmh_97 rfl ?_
  rw [up_s]
  refine e_imul dX10_draw_7 ?_
  refine e_bipush (by decide) dX10_draw_8 ?_
  refine e_iadd dX10_draw_10 ?_
  refine e_ldcw (z := 65537) kcX10_276 (by decide) dX10_draw_11 ?_
  refine e_iremN (by first | assumption | (unfold inI at *; omega)) (by first | assumption | (unfold inI at *; omega)) (by omega) (by omega) dX10_draw_14 ?_
  rw [show (75 * s + 74) % 65537 = ksd s by unfold ksd; rw [Int.mul_comm]]
  refine e_mput pfX10_273 dX10_draw_15 kml_27 rfl rfl rfl ?_
  rw [up_up]
  refine e_aload_n rfl dX10_draw_18 ?_
  refine e_getf fdX10_273 dX10_draw_19 kmh_97 rfl ?_
  rw [up_s]
  refine e_iload_n rfl dX10_draw_22 ?_
  refine e_iremN (by first | assumption | (unfold inI at *; omega)) (by first | assumption | (unfold inI at *; omega)) (by omega) (by omega) dX10_draw_23 ?_
  refine e_ireturn dX10_draw_24 rfl rfl ?_
  exact ⟨rfl, rfl, rfl⟩
theorem kch_sum {w : Int} (w0 : 1 ≤ w ∧ w ≤ 8) : ksum (fun j : Nat => kch w j) (2 * w).toNat + kch w (2 * w) = 4 ^ w.toNat := by
  rcases (show w = 1 ∨ w = 2 ∨ w = 3 ∨ w = 4 ∨ w = 5 ∨ w = 6 ∨ w = 7 ∨ w = 8 by omega) with q | q | q | q | q | q | q | q <;> subst q <;> decide +kernel
set_option maxHeartbeats 4000000 in
set_option maxRecDepth 100000 in
theorem j_height_lp {G : kG} {d : Nat} {h : Nat → Option kC} {n : Nat} {q : Nat → Int} {F : Nat → Nat → Int} {m w x : Int} (m0 : 0 ≤ m ∧ m ≤ 63) (w0 : 1 ≤ w ∧ w ≤ 8) (hch : ∀ k : Nat, (k : Int) ≤ 2 * w → F 111 k = kch w k)  : ∀ (f : Nat) (k : Nat) (z left : Int), z = (k : Int) → z + f = 2 * w → 0 ≤ left ∧ left ≤ 65536 → left + ksum (fun j : Nat => kch w j) k < 4 ^ w.toNat → kE G mX10_heightOf d 0 0 6 [some (.ref (gB G + 97)), some (.int (jI m)), some (.int (jI w)), some (.int (jI x)), some (.int (jI z)), some (.int (jI left))] [] (kmh G h q F) n (kre (some (.int (jI (m - w + kpick w f z left)))) (kmh G h q F) n) := by
  intro f
  induction f with
  | zero =>
    intro k z left g1 g2 g3 g4
    subst g1
    have q9 := kch_sum w0
    rw [show (2 * w).toNat = k by omega, show 2 * w = (k : Int) by omega] at q9
    have q8 := kch_in w0.1 w0.2 (k : Int)
    refine e_iload rfl dX10_heightOf_6 ?_
    refine e_aload_n rfl dX10_heightOf_8 ?_
    refine e_getf fdX10_49 dX10_heightOf_9 kmh_97 rfl ?_
    refine e_iload rfl dX10_heightOf_12 ?_
    refine e_mld (by first | exact ka98 | exact ka99 | exact ka100 | exact ka101 | exact ka102 | exact ka103 | exact ka104 | exact ka105 | exact ka106 | exact ka107 | exact ka108 | exact ka109 | exact ka110 | exact ka111 | exact ka112 | exact ka113) dX10_heightOf_14 (by omega) (by omega) ?_
    rw [Int.toNat_natCast, hch k (by omega)]
    refine e_icmp_lt (tgt := 36) dX10_heightOf_15 (by decide) (by first | assumption | (unfold inI at *; omega)) (by first | assumption | (unfold inI at *; omega)) (fun c15 => ?_) (fun c15 => ?_)
    · refine e_iload_n rfl dX10_heightOf_36 ?_
      refine e_iload_n rfl dX10_heightOf_37 ?_
      refine e_isub dX10_heightOf_38 ?_
      refine e_iload rfl dX10_heightOf_39 ?_
      refine e_iadd dX10_heightOf_41 ?_
      refine e_ireturn dX10_heightOf_42 rfl rfl ?_
      exact ⟨by unfold kpick; rfl, rfl, rfl⟩
    · exact absurd c15 (by omega)
  | succ f ih =>
    intro k z left g1 g2 g3 g4
    subst g1
    have q8 := kch_in w0.1 w0.2 (k : Int)
    refine e_iload rfl dX10_heightOf_6 ?_
    refine e_aload_n rfl dX10_heightOf_8 ?_
    refine e_getf fdX10_49 dX10_heightOf_9 kmh_97 rfl ?_
    refine e_iload rfl dX10_heightOf_12 ?_
    refine e_mld (by first | exact ka98 | exact ka99 | exact ka100 | exact ka101 | exact ka102 | exact ka103 | exact ka104 | exact ka105 | exact ka106 | exact ka107 | exact ka108 | exact ka109 | exact ka110 | exact ka111 | exact ka112 | exact ka113) dX10_heightOf_14 (by omega) (by omega) ?_
    rw [Int.toNat_natCast, hch k (by omega)]
    refine e_icmp_lt (tgt := 36) dX10_heightOf_15 (by decide) (by first | assumption | (unfold inI at *; omega)) (by first | assumption | (unfold inI at *; omega)) (fun c15 => ?_) (fun c15 => ?_)
    · refine e_iload_n rfl dX10_heightOf_36 ?_
      refine e_iload_n rfl dX10_heightOf_37 ?_
      refine e_isub dX10_heightOf_38 ?_
      refine e_iload rfl dX10_heightOf_39 ?_
      refine e_iadd dX10_heightOf_41 ?_
      refine e_ireturn dX10_heightOf_42 rfl rfl ?_
      exact ⟨by unfold kpick; rw [if_pos (by omega)], rfl, rfl⟩
    · refine e_iload rfl dX10_heightOf_18 ?_
      refine e_aload_n rfl dX10_heightOf_20 ?_
      refine e_getf fdX10_49 dX10_heightOf_21 kmh_97 rfl ?_
      refine e_iload rfl dX10_heightOf_24 ?_
      refine e_mld (by first | exact ka98 | exact ka99 | exact ka100 | exact ka101 | exact ka102 | exact ka103 | exact ka104 | exact ka105 | exact ka106 | exact ka107 | exact ka108 | exact ka109 | exact ka110 | exact ka111 | exact ka112 | exact ka113) dX10_heightOf_26 (by omega) (by omega) ?_
      rw [Int.toNat_natCast, hch k (by omega)]
      refine e_isub dX10_heightOf_27 ?_
      refine e_istore dX10_heightOf_28 rfl rfl ?_
      dsimp only [List.set]
      refine e_iinc dX10_heightOf_30 rfl rfl ?_
      dsimp only [List.set]
      refine e_goto (tgt := 6) dX10_heightOf_33 (by decide) ?_
      refine kE.mono (ih (k + 1) _ _ (by omega) (by omega) (by omega) (by rw [ksum_s]; omega)) (fun r h' n' hq => ?_)
      obtain ⟨y1, y2, y3⟩ := hq
      refine ⟨?_, y2, y3⟩
      rw [y1]
      conv => rhs; unfold kpick
      rw [if_neg (by omega)]
set_option maxHeartbeats 4000000 in
set_option maxRecDepth 100000 in
theorem j_heightOf {G : kG} {d : Nat} {h : Nat → Option kC} {n : Nat} {q : Nat → Int} {F : Nat → Nat → Int} {m w x : Int} (m0 : 0 ≤ m ∧ m ≤ 63) (w0 : 1 ≤ w ∧ w ≤ 8) (hch : ∀ k : Nat, (k : Int) ≤ 2 * w → F 111 k = kch w k) (x0 : 0 ≤ x ∧ x ≤ 65536) (x1 : x < 4 ^ w.toNat) : kCall G mX10_heightOf d 0 0 [.ref (gB G + 97), .int (jI m), .int (jI w), .int (jI x)] (kmh G h q F) n (kre (some (.int (jI (m - w + kpick w (2 * w).toNat 0 x)))) (kmh G h q F) n) := by
  show kE G mX10_heightOf d 0 0 0 [some (.ref (gB G + 97)), some (.int (jI m)), some (.int (jI w)), some (.int (jI x)), none, none] [] (kmh G h q F) n _
  refine e_iconst dX10_heightOf_0 ?_
  refine e_istore dX10_heightOf_1 rfl rfl ?_
  dsimp only [List.set]
  refine e_iload_n rfl dX10_heightOf_3 ?_
  refine e_istore dX10_heightOf_4 rfl rfl ?_
  dsimp only [List.set]
  exact j_height_lp m0 w0 hch (2 * w).toNat 0 0 x (by omega) (by omega) x0 (by show x + 0 < _; omega)
set_option maxHeartbeats 4000000 in
set_option maxRecDepth 100000 in
theorem j_wa53 {G : kG} {d : Nat} {h : Nat → Option kC} {n : Nat} {q : Nat → Int} {F : Nat → Nat → Int} {Z : kCs} (md : rMD q F Z) (ok : kCok Z) {s : Int} (s0 : 0 ≤ s ∧ s ≤ 65536) {l x : Int} (l0 : 0 ≤ l ∧ l ≤ 63) (x0 : 0 ≤ x ∧ x ≤ 63) {e3 : Option Value} : kE G mX10_writtenAt (d + 1) 0 0 53 [some (.ref (gB G + 97)), some (.int (jI l)), some (.int (jI x)), e3] [] (kmh G h (up q 27 s) F) n (kre (some (.int (jI (kp3 (hW (cN Z)) x s).1))) (kmh G h (up q 27 (kp3 (hW (cN Z)) x s).2) F) n) := by
  obtain ⟨⟨w00, w01⟩, ⟨w10, w11⟩, ⟨w20, w21⟩, ⟨w30, w31⟩, ⟨w40, w41⟩⟩ := id ok.1.2.2.1
  have z9 := ksd_in s
  have z8 := ksd_in (ksd s)
  have z7 := ksd_in (ksd (ksd s))
  refine e_iload_n rfl dX10_writtenAt_53 ?_
  refine e_iconst dX10_writtenAt_54 ?_
  refine e_iremN (by first | assumption | (unfold inI at *; omega)) (by first | assumption | (unfold inI at *; omega)) (by omega) (by omega) dX10_writtenAt_55 ?_
  refine e_if_eq (tgt := 81) dX10_writtenAt_56 (by decide) (by first | assumption | (unfold inI at *; omega)) (fun c56 => ?_) (fun c56 => ?_)
  · refine e_iload_n rfl dX10_writtenAt_81 ?_
    refine e_ireturn dX10_writtenAt_82 rfl rfl ?_
    have e9 : kp3 (hW (cN Z)) x s = if ¬ x % 4 = 0 then (if ksd s % 10 < hW (cN Z) 1 then (kinch x, ksd s) else (x, ksd s)) else (x, s) := rfl
    first | rw [if_neg (show ¬ ¬ x % 4 = 0 by omega)] at e9 | rw [if_pos (show ¬ x % 4 = 0 by omega), if_pos (show ksd s % 10 < hW (cN Z) 1 by omega)] at e9 | rw [if_pos (show ¬ x % 4 = 0 by omega), if_neg (show ¬ ksd s % 10 < hW (cN Z) 1 by omega)] at e9
    rw [e9]
    exact ⟨rfl, rfl, rfl⟩
  · refine e_aload_n rfl dX10_writtenAt_59 ?_
    refine e_bipush (by decide) dX10_writtenAt_60 ?_
    refine eV1 mtX10_draw miX10_draw lkX10_277 dX10_writtenAt_62 kmh_97 rfl rfl rfl (j_draw (by omega) (by omega)) ?_
    dsimp only [Option.toList, List.cons_append, List.nil_append]
    refine e_aload_n rfl dX10_writtenAt_65 ?_
    refine e_getf fdX10_22 dX10_writtenAt_66 kmh_97 rfl ?_
    refine e_iconst dX10_writtenAt_69 ?_
    refine e_mld (by first | exact ka98 | exact ka99 | exact ka100 | exact ka101 | exact ka102 | exact ka103 | exact ka104 | exact ka105 | exact ka106 | exact ka107 | exact ka108 | exact ka109 | exact ka110 | exact ka111 | exact ka112 | exact ka113) dX10_writtenAt_70 (by omega) (by omega) ?_
    rw [show (1 : Int).toNat = 1 from rfl, md_w md (by omega)]
    refine e_icmp_ge (tgt := 81) dX10_writtenAt_71 (by decide) (by first | assumption | (unfold inI at *; omega)) (by first | assumption | (unfold inI at *; omega)) (fun c71 => ?_) (fun c71 => ?_)
    · refine e_iload_n rfl dX10_writtenAt_81 ?_
      refine e_ireturn dX10_writtenAt_82 rfl rfl ?_
      have e9 : kp3 (hW (cN Z)) x s = if ¬ x % 4 = 0 then (if ksd s % 10 < hW (cN Z) 1 then (kinch x, ksd s) else (x, ksd s)) else (x, s) := rfl
      first | rw [if_neg (show ¬ ¬ x % 4 = 0 by omega)] at e9 | rw [if_pos (show ¬ x % 4 = 0 by omega), if_pos (show ksd s % 10 < hW (cN Z) 1 by omega)] at e9 | rw [if_pos (show ¬ x % 4 = 0 by omega), if_neg (show ¬ ksd s % 10 < hW (cN Z) 1 by omega)] at e9
      rw [e9]
      exact ⟨rfl, rfl, rfl⟩
    · refine e_iload_n rfl dX10_writtenAt_74 ?_
      refine eS1 mtX10_inchOf msX10_inchOf lkX10_208 dX10_writtenAt_75 rfl rfl (j_inchOf (by omega)) ?_
      dsimp only [Option.toList, List.cons_append, List.nil_append]
      refine e_goto (tgt := 82) dX10_writtenAt_78 (by decide) ?_
      refine e_ireturn dX10_writtenAt_82 rfl rfl ?_
      have e9 : kp3 (hW (cN Z)) x s = if ¬ x % 4 = 0 then (if ksd s % 10 < hW (cN Z) 1 then (kinch x, ksd s) else (x, ksd s)) else (x, s) := rfl
      first | rw [if_neg (show ¬ ¬ x % 4 = 0 by omega)] at e9 | rw [if_pos (show ¬ x % 4 = 0 by omega), if_pos (show ksd s % 10 < hW (cN Z) 1 by omega)] at e9 | rw [if_pos (show ¬ x % 4 = 0 by omega), if_neg (show ¬ ksd s % 10 < hW (cN Z) 1 by omega)] at e9
      rw [e9]
      exact ⟨rfl, rfl, rfl⟩
set_option maxHeartbeats 4000000 in
set_option maxRecDepth 100000 in
theorem j_wa35 {G : kG} {d : Nat} {h : Nat → Option kC} {n : Nat} {q : Nat → Int} {F : Nat → Nat → Int} {Z : kCs} (md : rMD q F Z) (ok : kCok Z) {s : Int} (s0 : 0 ≤ s ∧ s ≤ 65536) {l x : Int} (l0 : 0 ≤ l ∧ l ≤ 63) (x0 : 0 ≤ x ∧ x ≤ 63) {e3 : Option Value} : kE G mX10_writtenAt (d + 1) 0 0 35 [some (.ref (gB G + 97)), some (.int (jI l)), some (.int (jI x)), e3] [] (kmh G h (up q 27 s) F) n (kre (some (.int (jI (kp2 (hW (cN Z)) x s).1))) (kmh G h (up q 27 (kp2 (hW (cN Z)) x s).2) F) n) := by
  obtain ⟨⟨w00, w01⟩, ⟨w10, w11⟩, ⟨w20, w21⟩, ⟨w30, w31⟩, ⟨w40, w41⟩⟩ := id ok.1.2.2.1
  have z9 := ksd_in s
  have z8 := ksd_in (ksd s)
  have z7 := ksd_in (ksd (ksd s))
  refine e_aload_n rfl dX10_writtenAt_35 ?_
  refine e_bipush (by decide) dX10_writtenAt_36 ?_
  refine eV1 mtX10_draw miX10_draw lkX10_277 dX10_writtenAt_38 kmh_97 rfl rfl rfl (j_draw (by omega) (by omega)) ?_
  dsimp only [Option.toList, List.cons_append, List.nil_append]
  refine e_aload_n rfl dX10_writtenAt_41 ?_
  refine e_getf fdX10_22 dX10_writtenAt_42 kmh_97 rfl ?_
  refine e_iconst dX10_writtenAt_45 ?_
  refine e_mld (by first | exact ka98 | exact ka99 | exact ka100 | exact ka101 | exact ka102 | exact ka103 | exact ka104 | exact ka105 | exact ka106 | exact ka107 | exact ka108 | exact ka109 | exact ka110 | exact ka111 | exact ka112 | exact ka113) dX10_writtenAt_46 (by omega) (by omega) ?_
  rw [show (0 : Int).toNat = 0 from rfl, md_w md (by omega)]
  refine e_icmp_lt (tgt := 53) dX10_writtenAt_47 (by decide) (by first | assumption | (unfold inI at *; omega)) (by first | assumption | (unfold inI at *; omega)) (fun c47 => ?_) (fun c47 => ?_)
  · have e9 : kp2 (hW (cN Z)) x s = kp3 (hW (cN Z)) x (ksd s) := if_neg (by omega)
    rw [e9]
    exact j_wa53 md ok (by omega) l0 x0
  · refine e_bipush (by decide) dX10_writtenAt_50 ?_
    refine e_ireturn dX10_writtenAt_52 rfl rfl ?_
    have e9 : kp2 (hW (cN Z)) x s = (-6, ksd s) := if_pos (by omega)
    rw [e9]
    exact ⟨rfl, rfl, rfl⟩
set_option maxHeartbeats 4000000 in
set_option maxRecDepth 100000 in
theorem j_writtenAt {G : kG} {d : Nat} {h : Nat → Option kC} {n : Nat} {q : Nat → Int} {F : Nat → Nat → Int} {Z : kCs} (md : rMD q F Z) (ok : kCok Z) {s : Int} (s0 : 0 ≤ s ∧ s ≤ 65536) {l x : Int} (l0 : 0 ≤ l ∧ l ≤ 63) (x0 : 0 ≤ x ∧ x ≤ 63)  : kCall G mX10_writtenAt (d + 1) 0 0 [.ref (gB G + 97), .int (jI l), .int (jI x)] (kmh G h (up q 27 s) F) n (kre (some (.int (jI (kp1 (hW (cN Z)) l x s).1))) (kmh G h (up q 27 (kp1 (hW (cN Z)) l x s).2) F) n) := by
  show kE G mX10_writtenAt (d + 1) 0 0 0 [some (.ref (gB G + 97)), some (.int (jI l)), some (.int (jI x)), none] [] (kmh G h (up q 27 s) F) n _
  obtain ⟨⟨w00, w01⟩, ⟨w10, w11⟩, ⟨w20, w21⟩, ⟨w30, w31⟩, ⟨w40, w41⟩⟩ := id ok.1.2.2.1
  have z9 := ksd_in s
  have z8 := ksd_in (ksd s)
  have z7 := ksd_in (ksd (ksd s))
  refine e_iload_n rfl dX10_writtenAt_0 ?_
  refine e_iload_n rfl dX10_writtenAt_1 ?_
  refine e_isub dX10_writtenAt_2 ?_
  refine e_istore_n dX10_writtenAt_3 rfl rfl ?_
  dsimp only [List.set]
  refine e_iload_n rfl dX10_writtenAt_4 ?_
  refine e_if_le (tgt := 53) dX10_writtenAt_5 (by decide) (by first | assumption | (unfold inI at *; omega)) (fun c5 => ?_) (fun c5 => ?_)
  · have e9 : kp1 (hW (cN Z)) l x s = kp3 (hW (cN Z)) x s := if_neg (by omega)
    rw [e9]
    exact j_wa53 md ok s0 l0 x0
  · refine e_iload_n rfl dX10_writtenAt_8 ?_
    refine e_aload_n rfl dX10_writtenAt_9 ?_
    refine e_getf fdX10_22 dX10_writtenAt_10 kmh_97 rfl ?_
    refine e_iconst dX10_writtenAt_13 ?_
    refine e_mld (by first | exact ka98 | exact ka99 | exact ka100 | exact ka101 | exact ka102 | exact ka103 | exact ka104 | exact ka105 | exact ka106 | exact ka107 | exact ka108 | exact ka109 | exact ka110 | exact ka111 | exact ka112 | exact ka113) dX10_writtenAt_14 (by omega) (by omega) ?_
    rw [show (2 : Int).toNat = 2 from rfl, md_w md (by omega)]
    refine e_icmp_gt (tgt := 35) dX10_writtenAt_15 (by decide) (by first | assumption | (unfold inI at *; omega)) (by first | assumption | (unfold inI at *; omega)) (fun c15 => ?_) (fun c15 => ?_)
    · first
      | (rw [show kp1 (hW (cN Z)) l x s = kp2 (hW (cN Z)) x s by unfold kp1; rw [if_pos (by omega), if_neg (by omega)]]; exact j_wa35 md ok s0 l0 x0)
      | (rw [show kp1 (hW (cN Z)) l x s = kp2 (hW (cN Z)) x (ksd s) by unfold kp1; rw [if_pos (by omega), if_pos (by omega), if_neg (by omega)]]; exact j_wa35 md ok (by omega) l0 x0)
    · refine e_aload_n rfl dX10_writtenAt_18 ?_
      refine e_bipush (by decide) dX10_writtenAt_19 ?_
      refine eV1 mtX10_draw miX10_draw lkX10_277 dX10_writtenAt_21 kmh_97 rfl rfl rfl (j_draw (by omega) (by omega)) ?_
      dsimp only [Option.toList, List.cons_append, List.nil_append]
      refine e_aload_n rfl dX10_writtenAt_24 ?_
      refine e_getf fdX10_22 dX10_writtenAt_25 kmh_97 rfl ?_
      refine e_iconst dX10_writtenAt_28 ?_
      refine e_mld (by first | exact ka98 | exact ka99 | exact ka100 | exact ka101 | exact ka102 | exact ka103 | exact ka104 | exact ka105 | exact ka106 | exact ka107 | exact ka108 | exact ka109 | exact ka110 | exact ka111 | exact ka112 | exact ka113) dX10_writtenAt_29 (by omega) (by omega) ?_
      rw [show (3 : Int).toNat = 3 from rfl, md_w md (by omega)]
      refine e_icmp_ge (tgt := 35) dX10_writtenAt_30 (by decide) (by first | assumption | (unfold inI at *; omega)) (by first | assumption | (unfold inI at *; omega)) (fun c30 => ?_) (fun c30 => ?_)
      · first
        | (rw [show kp1 (hW (cN Z)) l x s = kp2 (hW (cN Z)) x s by unfold kp1; rw [if_pos (by omega), if_neg (by omega)]]; exact j_wa35 md ok s0 l0 x0)
        | (rw [show kp1 (hW (cN Z)) l x s = kp2 (hW (cN Z)) x (ksd s) by unfold kp1; rw [if_pos (by omega), if_pos (by omega), if_neg (by omega)]]; exact j_wa35 md ok (by omega) l0 x0)
      · refine e_iload_n rfl dX10_writtenAt_33 ?_
        refine e_ireturn dX10_writtenAt_34 rfl rfl ?_
        have e9 : kp1 (hW (cN Z)) l x s = (l, ksd s) := by unfold kp1; rw [if_pos (by omega), if_pos (by omega), if_pos (by omega)]
        rw [e9]
        exact ⟨rfl, rfl, rfl⟩
/-- the BOOK's part of the row of MEN told anew -/
def kput9 (f : Nat → Int) (b : Nat) (A : Nat → Int) : Nat → Int := fun j => if 64 * b ≤ j ∧ j < 64 * b + 64 then A (j - 64 * b) else f j
def kclr (f : Nat → Int) (b i : Nat) : Nat → Int := fun j => if 64 * b ≤ j ∧ j < 64 * b + i then 0 else f j
theorem kclr_s {f : Nat → Int} {b i : Nat} : up (kclr f b i) (64 * b + i) 0 = kclr f b (i + 1) := by
  funext j
  unfold up kclr
  by_cases e : j = 64 * b + i
  · rw [if_pos e, if_pos (by omega)]
  · rw [if_neg e]
    by_cases e2 : 64 * b ≤ j ∧ j < 64 * b + i
    · rw [if_pos e2, if_pos (by omega)]
    · rw [if_neg e2, if_neg (by omega)]
theorem kclr_0 {f : Nat → Int} {b : Nat} : kclr f b 0 = f := by
  funext j
  unfold kclr
  rw [if_neg (by omega)]
theorem kclr_e {f : Nat → Int} {b : Nat} : kclr f b 64 = kput9 f b (fun _ => 0) := rfl
theorem kput9_s {f A : Nat → Int} {b x : Nat} {v : Int} (hx : x < 64) : up (kput9 f b A) (64 * b + x) v = kput9 f b (up A x v) := by
  funext j
  unfold up kput9
  by_cases e : j = 64 * b + x
  · rw [if_pos e, if_pos (by omega)]
    dsimp only
    rw [if_pos (by omega)]
  · rw [if_neg e]
    by_cases e2 : 64 * b ≤ j ∧ j < 64 * b + 64
    · rw [if_pos e2, if_pos e2]
      dsimp only
      rw [if_neg (by omega)]
    · rw [if_neg e2, if_neg e2]
theorem kput9_a {f A : Nat → Int} {b x : Nat} (hx : x < 64) : kput9 f b A (64 * b + x) = A x := by
  unfold kput9
  rw [if_pos (by omega), show 64 * b + x - 64 * b = x by omega]
theorem kput9_o {f A : Nat → Int} {b j : Nat} (h : j < 64 * b ∨ 64 * b + 64 ≤ j) : kput9 f b A j = f j := if_neg (by omega)
theorem kput9_p {f A B : Nat → Int} {b : Nat} : kput9 (kput9 f b A) b B = kput9 f b B := by
  funext j
  unfold kput9
  split <;> rfl
theorem kF1_98 {F : Nat → Nat → Int} {w : Int} {X : Nat → Int} : kF1 (up2 F 98 X) w = up2 (kF1 F w) 98 X := by
  funext j
  unfold kF1 up2
  by_cases e1 : j = 111
  · subst e1; rfl
  · by_cases e2 : j = 98
    · subst e2; rfl
    · simp only [e1, e2, if_false]
/-- the state with a BOOK's MEN told anew -/
def kZA (Z : kCs) (b : Nat) (A : Nat → Int) : kCs := (kSM (cN Z) b A, Z.2)
theorem kZA_ok {Z : kCs} {b : Nat} {A : Nat → Int} (ok : kCok Z) (hA : kAok A) : kCok (kZA Z b A) := by
  obtain ⟨⟨a1, a2⟩, o2⟩ := ok
  refine ⟨⟨fun i hi => ?_, a2⟩, o2⟩
  show kAok (up2 (hM (cN Z)) b A i)
  unfold up2
  split
  · exact hA
  · exact a1 i hi
theorem kZA_M {Z : kCs} {b : Nat} {A : Nat → Int} : hM (cN (kZA Z b A)) b = A := if_pos rfl
theorem rMD_A {q q' : Nat → Int} {F F' : Nat → Nat → Int} {Z : kCs} {b : Nat} {B A : Nat → Int} (r : rMD q F (kZA Z b B)) (hq : q' 6 = q 6 ∧ q' 9 = q 9 ∧ q' 13 = q 13 ∧ q' 16 = q 16) (hF : ∀ j, j ≠ 98 → j ≠ 111 → j ≠ 112 → F' j = F j) (h8 : F' 98 = kput9 (F 98) b A) : rMD q' F' (kZA Z b A) := by
  refine rMD_98 (M' := up2 (hM (cN Z)) b A) (Z := kZA Z b B) (rMD_q r hq.1 hq.2.1 hq.2.2.1 hq.2.2.2) hF (fun b9 x9 h1 h2 => ?_)
  rw [h8]
  unfold up2
  by_cases e : b9 = b
  · rw [if_pos e, e, kput9_a h2]
  · rw [if_neg e, kput9_o (by omega), r.1.1 b9 x9 h1 h2]
    show up2 (hM (cN Z)) b B b9 x9 = _
    rw [up2_n e]
theorem kZA_i {Z : kCs} {b : Nat} : kZA Z b (hM (cN Z) b) = Z := by
  unfold kZA kSM
  rw [up2_id]
  rfl
